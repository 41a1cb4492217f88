/-! ===== the model: acts, trace, as, image, undo, count ===== -/
def DM : Nat → Nat → Prop := fun q i => (q = 67 ∧ i = 18) ∨ q = 76
set_option maxHeartbeats 4000000 in
set_option maxRecDepth 100000 in
theorem c_X9_isUnder {E : Ev} {μ : Mem} {a b : Nat} (ha : a ≤ 6) (hb : b ≤ 6) : AM E yX9_isUnder cX9_isUnder 2 (some .boolean) 0 [.int (nI a), .int (nI b)] μ (fun r μ' => r = some (.int (bI (undN a b))) ∧ μ' = μ) := by
  refine am_of (own := RX9) (L := [.int (nI a), .int (nI b)]) (by decide) rfl (Nat.le_of_ble_eq_true rfl) rfl (fun Γ hR => ?_)
  by_cases b0 : b = 0
  · refine cw_iload_n (pc := 0) dX9_isUnder_0 rfl rfl <|
      cw_if_eq_T (tgt := 25) (pc := 1) dX9_isUnder_1 (by decide) (by rw [b0]; rfl) <|
      cw_iconst (v := 1) (pc := 25) dX9_isUnder_25 (by decide) <|
      cw_goto (tgt := 30) (pc := 26) dX9_isUnder_26 (by decide) <|
      cw_zret (pc := 30) dX9_isUnder_30 hR rfl <|
      ⟨by rw [bI_t (Or.inl b0)], rfl⟩
  · have n0 : ¬ nI b = 0 := fun e => b0 ((nI_eq (by omega) (by omega)).mp (show nI b = nI 0 from e))
    have n1 : ¬ nI b ≤ 0 := nI_nle0 (by omega) (by omega)
    by_cases ba : b = a
    · refine cw_iload_n (pc := 0) dX9_isUnder_0 rfl rfl <|
        cw_if_eq_F (tgt := 25) (pc := 1) dX9_isUnder_1 (by decide) n0 <|
        cw_iload_n (pc := 4) dX9_isUnder_4 rfl rfl <|
        cw_iload_n (pc := 5) dX9_isUnder_5 rfl rfl <|
        cw_icmp_eq_T (tgt := 25) (pc := 6) dX9_isUnder_6 (by decide) (by rw [ba]) <|
        cw_iconst (v := 1) (pc := 25) dX9_isUnder_25 (by decide) <|
        cw_goto (tgt := 30) (pc := 26) dX9_isUnder_26 (by decide) <|
        cw_zret (pc := 30) dX9_isUnder_30 hR rfl <|
        ⟨by rw [bI_t (Or.inr (Or.inl ba))], rfl⟩
    · have n2 : ¬ nI b = nI a := fun e => ba ((nI_eq (by omega) (by omega)).mp e)
      by_cases b4 : b < 4
      · have n3 : nI b + 3 = nI (b + 3) := nI_add b 3
        by_cases h3 : a = b + 3
        · refine cw_iload_n (pc := 0) dX9_isUnder_0 rfl rfl <|
            cw_if_eq_F (tgt := 25) (pc := 1) dX9_isUnder_1 (by decide) n0 <|
            cw_iload_n (pc := 4) dX9_isUnder_4 rfl rfl <|
            cw_iload_n (pc := 5) dX9_isUnder_5 rfl rfl <|
            cw_icmp_eq_F (tgt := 25) (pc := 6) dX9_isUnder_6 (by decide) n2 <|
            cw_iload_n (pc := 9) dX9_isUnder_9 rfl rfl <|
            cw_if_le_F (tgt := 29) (pc := 10) dX9_isUnder_10 (by decide) n1 <|
            cw_iload_n (pc := 13) dX9_isUnder_13 rfl rfl <|
            cw_iconst (v := 4) (pc := 14) dX9_isUnder_14 (by decide) <|
            cw_icmp_ge_F (tgt := 29) (pc := 15) dX9_isUnder_15 (by decide) (nI_ge (b := 4) b4 (by decide)) <|
            cw_iload_n (pc := 18) dX9_isUnder_18 rfl rfl <|
            cw_iload_n (pc := 19) dX9_isUnder_19 rfl rfl <|
            cw_iconst (v := 3) (pc := 20) dX9_isUnder_20 (by decide) <|
            cw_iadd (pc := 21) dX9_isUnder_21 <|
            cw_icmp_ne_F (tgt := 29) (pc := 22) dX9_isUnder_22 (by decide) (by rw [n3, h3]) <|
            cw_iconst (v := 1) (pc := 25) dX9_isUnder_25 (by decide) <|
            cw_goto (tgt := 30) (pc := 26) dX9_isUnder_26 (by decide) <|
            cw_zret (pc := 30) dX9_isUnder_30 hR rfl <|
            ⟨by rw [bI_t (Or.inr (Or.inr ⟨by omega, b4, h3⟩))], rfl⟩
        · refine cw_iload_n (pc := 0) dX9_isUnder_0 rfl rfl <|
            cw_if_eq_F (tgt := 25) (pc := 1) dX9_isUnder_1 (by decide) n0 <|
            cw_iload_n (pc := 4) dX9_isUnder_4 rfl rfl <|
            cw_iload_n (pc := 5) dX9_isUnder_5 rfl rfl <|
            cw_icmp_eq_F (tgt := 25) (pc := 6) dX9_isUnder_6 (by decide) n2 <|
            cw_iload_n (pc := 9) dX9_isUnder_9 rfl rfl <|
            cw_if_le_F (tgt := 29) (pc := 10) dX9_isUnder_10 (by decide) n1 <|
            cw_iload_n (pc := 13) dX9_isUnder_13 rfl rfl <|
            cw_iconst (v := 4) (pc := 14) dX9_isUnder_14 (by decide) <|
            cw_icmp_ge_F (tgt := 29) (pc := 15) dX9_isUnder_15 (by decide) (nI_ge (b := 4) b4 (by decide)) <|
            cw_iload_n (pc := 18) dX9_isUnder_18 rfl rfl <|
            cw_iload_n (pc := 19) dX9_isUnder_19 rfl rfl <|
            cw_iconst (v := 3) (pc := 20) dX9_isUnder_20 (by decide) <|
            cw_iadd (pc := 21) dX9_isUnder_21 <|
            cw_icmp_ne_T (tgt := 29) (pc := 22) dX9_isUnder_22 (by decide) (by rw [n3]; exact fun e => h3 ((nI_eq (by omega) (by omega)).mp e)) <|
            cw_iconst (v := 0) (pc := 29) dX9_isUnder_29 (by decide) <|
            cw_zret (pc := 30) dX9_isUnder_30 hR rfl <|
            ⟨by rw [bI_f (fun h => h.elim b0 (fun h => h.elim ba (fun h => h3 h.2.2)))], rfl⟩
      · refine cw_iload_n (pc := 0) dX9_isUnder_0 rfl rfl <|
          cw_if_eq_F (tgt := 25) (pc := 1) dX9_isUnder_1 (by decide) n0 <|
          cw_iload_n (pc := 4) dX9_isUnder_4 rfl rfl <|
          cw_iload_n (pc := 5) dX9_isUnder_5 rfl rfl <|
          cw_icmp_eq_F (tgt := 25) (pc := 6) dX9_isUnder_6 (by decide) n2 <|
          cw_iload_n (pc := 9) dX9_isUnder_9 rfl rfl <|
          cw_if_le_F (tgt := 29) (pc := 10) dX9_isUnder_10 (by decide) n1 <|
          cw_iload_n (pc := 13) dX9_isUnder_13 rfl rfl <|
          cw_iconst (v := 4) (pc := 14) dX9_isUnder_14 (by decide) <|
          cw_icmp_ge_T (tgt := 29) (pc := 15) dX9_isUnder_15 (by decide) (nI_le (a := 4) (by omega) (by omega)) <|
          cw_iconst (v := 0) (pc := 29) dX9_isUnder_29 (by decide) <|
          cw_zret (pc := 30) dX9_isUnder_30 hR rfl <|
          ⟨by rw [bI_f (fun h => h.elim b0 (fun h => h.elim ba (fun h => b4 h.2.1)))], rfl⟩
set_option maxHeartbeats 4000000 in
set_option maxRecDepth 100000 in
theorem c_X9_ranBody {E : Ev} {μ : Mem} {l : List Int32} (h : TrAt μ 67 18 76 l) (hl : l.length < 20) {b : Int32} : AM E yX9_ranBody cX9_ranBody 2 none 0 [.ref 67, .int b] μ (fun r μ' => r = none ∧ TrAt μ' 67 18 76 (l ++ [b]) ∧ Same DM μ μ') := by
  refine am_of (own := RX9) (L := [.ref 67, .int b]) (by decide) rfl (Nat.le_of_ble_eq_true rfl) rfl (fun Γ hR => ?_)
  have e1 : (st μ 76 l.length b) 67 18 = nI l.length := (st_at.trans (if_neg (by omega))).trans h.1
  refine cw_aload_n (pc := 0) dX9_ranBody_0 rfl rfl <|
    cw_getI (q := 67) (pc := 1) dX9_ranBody_1 fX9_222 sh_67 (by decide) rfl <|
    ?_
  rw [h.1]
  refine cw_bipush (v := 20) (pc := 4) dX9_ranBody_4 (by decide) <|
    cw_icmp_ge_F (tgt := 19) (pc := 6) dX9_ranBody_6 (by decide) (nI_ge (b := 20) hl (by decide)) <|
    cw_aload_n (pc := 9) dX9_ranBody_9 rfl rfl <|
    cw_getR (q := 67) (t := 76) (pc := 10) dX9_ranBody_10 fX9_37 sh_67 (by decide) rfl <|
    cw_aload_n (pc := 13) dX9_ranBody_13 rfl rfl <|
    cw_getI (q := 67) (pc := 14) dX9_ranBody_14 fX9_222 sh_67 (by decide) rfl <|
    ?_
  rw [h.1]
  refine cw_iload_n (pc := 17) dX9_ranBody_17 rfl rfl <|
    cw_ias (q := 76) (jn := l.length) (pc := 18) dX9_ranBody_18 sh_76 rfl hl (by decide) <|
    cw_aload_n (pc := 19) dX9_ranBody_19 rfl rfl <|
    cw_dup (pc := 20) dX9_ranBody_20 rfl <|
    cw_getI (q := 67) (pc := 21) dX9_ranBody_21 fX9_222 sh_67 (by decide) rfl <|
    ?_
  rw [e1]
  refine cw_iconst (v := 1) (pc := 24) dX9_ranBody_24 (by decide) <|
    cw_iadd (pc := 25) dX9_ranBody_25 <|
    ?_
  rw [nI_1]
  refine cw_putI (q := 67) (pc := 26) dX9_ranBody_26 pX9_222 sh_67 (by decide) rfl <|
    cw_vret (pc := 29) dX9_ranBody_29 hR <|
    ⟨rfl, h.ad (by decide) hl b, (Same.rf.s1 (Or.inr rfl)).s1 (Or.inl ⟨rfl, rfl⟩)⟩
set_option maxHeartbeats 4000000 in
set_option maxRecDepth 100000 in
theorem c_X9_plainPloughs {E : Ev} {μ : Mem} {l : List Int32} (h : TrAt μ 67 18 76 l) {kd : Nat} {v m x : Int32} (hm : μ 67 20 = m) (hkd : μ 67 19 = nI kd) (hv : μ 67 21 = v) (hk6 : kd ≤ 6) (hl : l.length + 1 ≤ 20) : AM E yX9_plainPloughs cX9_plainPloughs 2 (some .int) 1 [.ref 67, .int x] μ (fun r μ' => r = some (.int (x + m, ([1] : List Int32)).1) ∧ TrAt μ' 67 18 76 (l ++ (x + m, ([1] : List Int32)).2) ∧ Same DM μ μ') := by
  refine am_of (own := RX9) (L := [.ref 67, .int x]) (by decide) rfl (Nat.le_of_ble_eq_true rfl) rfl (fun Γ hR => ?_)
  refine cw_aload_n (pc := 0) dX9_plainPloughs_0 rfl rfl <|
    cw_iconst (v := 1) (pc := 1) dX9_plainPloughs_1 (by decide) <|
    cw_invP (q := 67) (pc := 2) dX9_plainPloughs_2 (c_X9_ranBody h (by omega)) rfl vX9_225 sh_67 (by decide) rfl rfl rfl (by decide) <|
    ?_
  rintro _ m1 ⟨rfl, h1, s1⟩
  have f1 : ∀ i, i ≠ 18 → m1 67 i = μ 67 i := fun i hi => s1 _ _ (by unfold DM; omega)
  have hl1 : (l ++ [1]).length = l.length + 1 := by simp
  refine cw_iload_n (pc := 5) dX9_plainPloughs_5 rfl rfl <|
    cw_aload_n (pc := 6) dX9_plainPloughs_6 rfl rfl <|
    cw_getI (q := 67) (pc := 7) dX9_plainPloughs_7 fX9_228 sh_67 (by decide) rfl <|
    ?_
  rw [f1 20 (by decide), hm]
  refine cw_iadd (pc := 10) dX9_plainPloughs_10 <|
    cw_iret (pc := 11) dX9_plainPloughs_11 hR <|
    ⟨rfl, h1, s1⟩
set_option maxHeartbeats 4000000 in
set_option maxRecDepth 100000 in
theorem c_X9_ploughsActs {E : Ev} {μ : Mem} {l : List Int32} (h : TrAt μ 67 18 76 l) {kd : Nat} {v m x : Int32} (hm : μ 67 20 = m) (hkd : μ 67 19 = nI kd) (hv : μ 67 21 = v) (hk6 : kd ≤ 6) (hl : l.length + 2 ≤ 20) : AM E yX9_ploughsActs cX9_ploughsActs 2 (some .int) 2 [.ref 67, .int x] μ (fun r μ' => r = some (.int (actP kd m x).1) ∧ TrAt μ' 67 18 76 (l ++ (actP kd m x).2) ∧ Same DM μ μ') := by
  refine am_of (own := RX9) (L := [.ref 67, .int x]) (by decide) rfl (Nat.le_of_ble_eq_true rfl) rfl (fun Γ hR => ?_)
  by_cases e1 : kd = 1 ∨ kd = 4
  · have hu : undN kd 1 := by unfold undN; omega
    rw [show actP kd m x = (x * 3 + m, [11, 1]) from if_pos e1] at hR
    refine cw_aload_n (pc := 0) dX9_ploughsActs_0 rfl rfl <|
      cw_getI (q := 67) (pc := 1) dX9_ploughsActs_1 fX9_231 sh_67 (by decide) rfl <|
      ?_
    rw [hkd]
    refine cw_iconst (v := 1) (pc := 4) dX9_ploughsActs_4 (by decide) <|
      cw_insI (pc := 5) dX9_ploughsActs_5 (c_X9_isUnder (a := kd) (b := 1) hk6 (by decide)) vX9_234 rfl rfl rfl (by decide) <|
      cw_if_eq_F (tgt := 25) (pc := 8) dX9_ploughsActs_8 (by decide) (bI_n0.mpr hu) <|
      cw_aload_n (pc := 11) dX9_ploughsActs_11 rfl rfl <|
      cw_bipush (v := 11) (pc := 12) dX9_ploughsActs_12 (by decide) <|
      cw_invP (q := 67) (pc := 14) dX9_ploughsActs_14 (c_X9_ranBody h (by omega)) rfl vX9_225 sh_67 (by decide) rfl rfl rfl (by decide) <|
      ?_
    rintro _ m1 ⟨rfl, h1, s1⟩
    have f1 : ∀ i, i ≠ 18 → m1 67 i = μ 67 i := fun i hi => s1 _ _ (by unfold DM; omega)
    have hl1 : (l ++ [11]).length = l.length + 1 := by simp
    refine cw_aload_n (pc := 17) dX9_ploughsActs_17 rfl rfl <|
      cw_iload_n (pc := 18) dX9_ploughsActs_18 rfl rfl <|
      cw_iconst (v := 3) (pc := 19) dX9_ploughsActs_19 (by decide) <|
      cw_imul (pc := 20) dX9_ploughsActs_20 <|
      cw_invP (q := 67) (pc := 21) dX9_ploughsActs_21 (c_X9_plainPloughs h1 ((f1 20 (by decide)).trans hm) ((f1 19 (by decide)).trans hkd) ((f1 21 (by decide)).trans hv) hk6 (by omega)) rfl vX9_237 sh_67 (by decide) rfl rfl rfl (by decide) <|
      ?_
    rintro _ m2 ⟨rfl, h2, s2⟩
    have f2 : ∀ i, i ≠ 18 → m2 67 i = μ 67 i := fun i hi => (s2 _ _ (by unfold DM; omega)).trans (f1 i hi)
    refine cw_iret (pc := 24) dX9_ploughsActs_24 hR <|
      ⟨rfl, (by have e := h2; rw [List.append_assoc] at e; exact e), s1.tr s2⟩
  · have hu : ¬ undN kd 1 := by unfold undN; omega
    by_cases e5 : kd = 5
    · rw [show actP kd m x = ((x + m) ^^^ m, [51, 1]) by unfold actP; rw [if_neg e1, if_pos e5]] at hR
      refine cw_aload_n (pc := 0) dX9_ploughsActs_0 rfl rfl <|
        cw_getI (q := 67) (pc := 1) dX9_ploughsActs_1 fX9_231 sh_67 (by decide) rfl <|
        ?_
      rw [hkd]
      refine cw_iconst (v := 1) (pc := 4) dX9_ploughsActs_4 (by decide) <|
        cw_insI (pc := 5) dX9_ploughsActs_5 (c_X9_isUnder (a := kd) (b := 1) hk6 (by decide)) vX9_234 rfl rfl rfl (by decide) <|
        cw_if_eq_T (tgt := 25) (pc := 8) dX9_ploughsActs_8 (by decide) (bI_0.mpr hu) <|
        cw_aload_n (pc := 25) dX9_ploughsActs_25 rfl rfl <|
        cw_getI (q := 67) (pc := 26) dX9_ploughsActs_26 fX9_231 sh_67 (by decide) rfl <|
        ?_
      rw [hkd]
      refine cw_iconst (v := 5) (pc := 29) dX9_ploughsActs_29 (by decide) <|
        cw_icmp_ne_F (tgt := 50) (pc := 30) dX9_ploughsActs_30 (by decide) (by rw [e5]; rfl) <|
        cw_aload_n (pc := 33) dX9_ploughsActs_33 rfl rfl <|
        cw_bipush (v := 51) (pc := 34) dX9_ploughsActs_34 (by decide) <|
        cw_invP (q := 67) (pc := 36) dX9_ploughsActs_36 (c_X9_ranBody h (by omega)) rfl vX9_225 sh_67 (by decide) rfl rfl rfl (by decide) <|
        ?_
      rintro _ m1 ⟨rfl, h1, s1⟩
      have f1 : ∀ i, i ≠ 18 → m1 67 i = μ 67 i := fun i hi => s1 _ _ (by unfold DM; omega)
      have hl1 : (l ++ [51]).length = l.length + 1 := by simp
      refine cw_aload_n (pc := 39) dX9_ploughsActs_39 rfl rfl <|
        cw_iload_n (pc := 40) dX9_ploughsActs_40 rfl rfl <|
        cw_invP (q := 67) (pc := 41) dX9_ploughsActs_41 (c_X9_plainPloughs h1 ((f1 20 (by decide)).trans hm) ((f1 19 (by decide)).trans hkd) ((f1 21 (by decide)).trans hv) hk6 (by omega)) rfl vX9_237 sh_67 (by decide) rfl rfl rfl (by decide) <|
        ?_
      rintro _ m2 ⟨rfl, h2, s2⟩
      have f2 : ∀ i, i ≠ 18 → m2 67 i = μ 67 i := fun i hi => (s2 _ _ (by unfold DM; omega)).trans (f1 i hi)
      refine cw_aload_n (pc := 44) dX9_ploughsActs_44 rfl rfl <|
        cw_getI (q := 67) (pc := 45) dX9_ploughsActs_45 fX9_228 sh_67 (by decide) rfl <|
        ?_
      rw [f2 20 (by decide), hm]
      refine cw_ixor (pc := 48) dX9_ploughsActs_48 <|
        cw_iret (pc := 49) dX9_ploughsActs_49 hR <|
        ⟨rfl, (by have e := h2; rw [List.append_assoc] at e; exact e), s1.tr s2⟩
    · rw [show actP kd m x = (x + m, [1]) by unfold actP; rw [if_neg e1, if_neg e5]] at hR
      refine cw_aload_n (pc := 0) dX9_ploughsActs_0 rfl rfl <|
        cw_getI (q := 67) (pc := 1) dX9_ploughsActs_1 fX9_231 sh_67 (by decide) rfl <|
        ?_
      rw [hkd]
      refine cw_iconst (v := 1) (pc := 4) dX9_ploughsActs_4 (by decide) <|
        cw_insI (pc := 5) dX9_ploughsActs_5 (c_X9_isUnder (a := kd) (b := 1) hk6 (by decide)) vX9_234 rfl rfl rfl (by decide) <|
        cw_if_eq_T (tgt := 25) (pc := 8) dX9_ploughsActs_8 (by decide) (bI_0.mpr hu) <|
        cw_aload_n (pc := 25) dX9_ploughsActs_25 rfl rfl <|
        cw_getI (q := 67) (pc := 26) dX9_ploughsActs_26 fX9_231 sh_67 (by decide) rfl <|
        ?_
      rw [hkd]
      refine cw_iconst (v := 5) (pc := 29) dX9_ploughsActs_29 (by decide) <|
        cw_icmp_ne_T (tgt := 50) (pc := 30) dX9_ploughsActs_30 (by decide) (fun e => e5 ((nI_eq (by omega) (by decide)).mp (show nI kd = nI 5 from e))) <|
        cw_aload_n (pc := 50) dX9_ploughsActs_50 rfl rfl <|
        cw_iload_n (pc := 51) dX9_ploughsActs_51 rfl rfl <|
        cw_invP (q := 67) (pc := 52) dX9_ploughsActs_52 (c_X9_plainPloughs h hm hkd hv hk6 (by omega)) rfl vX9_237 sh_67 (by decide) rfl rfl rfl (by decide) <|
        ?_
      rintro _ m2 ⟨rfl, h2, s2⟩
      refine cw_iret (pc := 55) dX9_ploughsActs_55 hR <|
        ⟨rfl, h2, s2⟩
set_option maxHeartbeats 4000000 in
set_option maxRecDepth 100000 in
theorem c_X9_plainLooks {E : Ev} {μ : Mem} {l : List Int32} (h : TrAt μ 67 18 76 l) {kd : Nat} {v m x : Int32} (hm : μ 67 20 = m) (hkd : μ 67 19 = nI kd) (hv : μ 67 21 = v) (hk6 : kd ≤ 6) (hl : l.length + 3 ≤ 20) : AM E yX9_plainLooks cX9_plainLooks 2 (some .int) 3 [.ref 67, .int x] μ (fun r μ' => r = some (.int (actQ kd v m x).1) ∧ TrAt μ' 67 18 76 (l ++ (actQ kd v m x).2) ∧ Same DM μ μ') := by
  refine am_of (own := RX9) (L := [.ref 67, .int x]) (by decide) rfl (Nat.le_of_ble_eq_true rfl) rfl (fun Γ hR => ?_)
  refine cw_aload_n (pc := 0) dX9_plainLooks_0 rfl rfl <|
    cw_iconst (v := 2) (pc := 1) dX9_plainLooks_1 (by decide) <|
    cw_invP (q := 67) (pc := 2) dX9_plainLooks_2 (c_X9_ranBody h (by omega)) rfl vX9_225 sh_67 (by decide) rfl rfl rfl (by decide) <|
    ?_
  rintro _ m1 ⟨rfl, h1, s1⟩
  have f1 : ∀ i, i ≠ 18 → m1 67 i = μ 67 i := fun i hi => s1 _ _ (by unfold DM; omega)
  have hl1 : (l ++ [2]).length = l.length + 1 := by simp
  refine cw_aload_n (pc := 5) dX9_plainLooks_5 rfl rfl <|
    cw_iload_n (pc := 6) dX9_plainLooks_6 rfl rfl <|
    cw_invP (q := 67) (pc := 7) dX9_plainLooks_7 (c_X9_ploughsActs h1 ((f1 20 (by decide)).trans hm) ((f1 19 (by decide)).trans hkd) ((f1 21 (by decide)).trans hv) hk6 (by omega)) rfl vX9_240 sh_67 (by decide) rfl rfl rfl (by decide) <|
    ?_
  rintro _ m2 ⟨rfl, h2, s2⟩
  have f2 : ∀ i, i ≠ 18 → m2 67 i = μ 67 i := fun i hi => (s2 _ _ (by unfold DM; omega)).trans (f1 i hi)
  refine cw_aload_n (pc := 10) dX9_plainLooks_10 rfl rfl <|
    cw_getI (q := 67) (pc := 11) dX9_plainLooks_11 fX9_243 sh_67 (by decide) rfl <|
    ?_
  rw [f2 21 (by decide), hv]
  refine cw_isub (pc := 14) dX9_plainLooks_14 <|
    cw_iret (pc := 15) dX9_plainLooks_15 hR <|
    ⟨rfl, (by have e := h2; rw [List.append_assoc] at e; exact e), s1.tr s2⟩
set_option maxHeartbeats 4000000 in
set_option maxRecDepth 100000 in
theorem c_X9_looksActs {E : Ev} {μ : Mem} {l : List Int32} (h : TrAt μ 67 18 76 l) {kd : Nat} {v m x : Int32} (hm : μ 67 20 = m) (hkd : μ 67 19 = nI kd) (hv : μ 67 21 = v) (hk6 : kd ≤ 6) (hl : l.length + 4 ≤ 20) : AM E yX9_looksActs cX9_looksActs 2 (some .int) 4 [.ref 67, .int x] μ (fun r μ' => r = some (.int (actL kd kd v m x).1) ∧ TrAt μ' 67 18 76 (l ++ (actL kd kd v m x).2) ∧ Same DM μ μ') := by
  refine am_of (own := RX9) (L := [.ref 67, .int x]) (by decide) rfl (Nat.le_of_ble_eq_true rfl) rfl (fun Γ hR => ?_)
  by_cases e1 : kd = 2 ∨ kd = 5
  · have hu : undN kd 2 := by unfold undN; omega
    rw [show actL kd kd v m x = (-(actQ kd v m x).1, 21 :: (actQ kd v m x).2) from if_pos e1] at hR
    refine cw_aload_n (pc := 0) dX9_looksActs_0 rfl rfl <|
      cw_getI (q := 67) (pc := 1) dX9_looksActs_1 fX9_231 sh_67 (by decide) rfl <|
      ?_
    rw [hkd]
    refine cw_iconst (v := 2) (pc := 4) dX9_looksActs_4 (by decide) <|
      cw_insI (pc := 5) dX9_looksActs_5 (c_X9_isUnder (a := kd) (b := 2) hk6 (by decide)) vX9_234 rfl rfl rfl (by decide) <|
      cw_if_eq_F (tgt := 24) (pc := 8) dX9_looksActs_8 (by decide) (bI_n0.mpr hu) <|
      cw_aload_n (pc := 11) dX9_looksActs_11 rfl rfl <|
      cw_bipush (v := 21) (pc := 12) dX9_looksActs_12 (by decide) <|
      cw_invP (q := 67) (pc := 14) dX9_looksActs_14 (c_X9_ranBody h (by omega)) rfl vX9_225 sh_67 (by decide) rfl rfl rfl (by decide) <|
      ?_
    rintro _ m1 ⟨rfl, h1, s1⟩
    have f1 : ∀ i, i ≠ 18 → m1 67 i = μ 67 i := fun i hi => s1 _ _ (by unfold DM; omega)
    have hl1 : (l ++ [21]).length = l.length + 1 := by simp
    refine cw_aload_n (pc := 17) dX9_looksActs_17 rfl rfl <|
      cw_iload_n (pc := 18) dX9_looksActs_18 rfl rfl <|
      cw_invP (q := 67) (pc := 19) dX9_looksActs_19 (c_X9_plainLooks h1 ((f1 20 (by decide)).trans hm) ((f1 19 (by decide)).trans hkd) ((f1 21 (by decide)).trans hv) hk6 (by omega)) rfl vX9_246 sh_67 (by decide) rfl rfl rfl (by decide) <|
      ?_
    rintro _ m2 ⟨rfl, h2, s2⟩
    have f2 : ∀ i, i ≠ 18 → m2 67 i = μ 67 i := fun i hi => (s2 _ _ (by unfold DM; omega)).trans (f1 i hi)
    refine cw_ineg (pc := 22) dX9_looksActs_22 <|
      cw_iret (pc := 23) dX9_looksActs_23 hR <|
      ⟨rfl, (by have e := h2; rw [List.append_assoc] at e; exact e), s1.tr s2⟩
  · have hu : ¬ undN kd 2 := by unfold undN; omega
    by_cases e5 : kd = 6
    · rw [show actL kd kd v m x = ((actQ kd v m x).1 + v, 61 :: (actQ kd v m x).2) by unfold actL; rw [if_neg e1, if_pos e5]] at hR
      refine cw_aload_n (pc := 0) dX9_looksActs_0 rfl rfl <|
        cw_getI (q := 67) (pc := 1) dX9_looksActs_1 fX9_231 sh_67 (by decide) rfl <|
        ?_
      rw [hkd]
      refine cw_iconst (v := 2) (pc := 4) dX9_looksActs_4 (by decide) <|
        cw_insI (pc := 5) dX9_looksActs_5 (c_X9_isUnder (a := kd) (b := 2) hk6 (by decide)) vX9_234 rfl rfl rfl (by decide) <|
        cw_if_eq_T (tgt := 24) (pc := 8) dX9_looksActs_8 (by decide) (bI_0.mpr hu) <|
        cw_aload_n (pc := 24) dX9_looksActs_24 rfl rfl <|
        cw_getI (q := 67) (pc := 25) dX9_looksActs_25 fX9_231 sh_67 (by decide) rfl <|
        ?_
      rw [hkd]
      refine cw_bipush (v := 6) (pc := 28) dX9_looksActs_28 (by decide) <|
        cw_icmp_ne_F (tgt := 50) (pc := 30) dX9_looksActs_30 (by decide) (by rw [e5]; rfl) <|
        cw_aload_n (pc := 33) dX9_looksActs_33 rfl rfl <|
        cw_bipush (v := 61) (pc := 34) dX9_looksActs_34 (by decide) <|
        cw_invP (q := 67) (pc := 36) dX9_looksActs_36 (c_X9_ranBody h (by omega)) rfl vX9_225 sh_67 (by decide) rfl rfl rfl (by decide) <|
        ?_
      rintro _ m1 ⟨rfl, h1, s1⟩
      have f1 : ∀ i, i ≠ 18 → m1 67 i = μ 67 i := fun i hi => s1 _ _ (by unfold DM; omega)
      have hl1 : (l ++ [61]).length = l.length + 1 := by simp
      refine cw_aload_n (pc := 39) dX9_looksActs_39 rfl rfl <|
        cw_iload_n (pc := 40) dX9_looksActs_40 rfl rfl <|
        cw_invP (q := 67) (pc := 41) dX9_looksActs_41 (c_X9_plainLooks h1 ((f1 20 (by decide)).trans hm) ((f1 19 (by decide)).trans hkd) ((f1 21 (by decide)).trans hv) hk6 (by omega)) rfl vX9_246 sh_67 (by decide) rfl rfl rfl (by decide) <|
        ?_
      rintro _ m2 ⟨rfl, h2, s2⟩
      have f2 : ∀ i, i ≠ 18 → m2 67 i = μ 67 i := fun i hi => (s2 _ _ (by unfold DM; omega)).trans (f1 i hi)
      refine cw_aload_n (pc := 44) dX9_looksActs_44 rfl rfl <|
        cw_getI (q := 67) (pc := 45) dX9_looksActs_45 fX9_243 sh_67 (by decide) rfl <|
        ?_
      rw [f2 21 (by decide), hv]
      refine cw_iadd (pc := 48) dX9_looksActs_48 <|
        cw_iret (pc := 49) dX9_looksActs_49 hR <|
        ⟨rfl, (by have e := h2; rw [List.append_assoc] at e; exact e), s1.tr s2⟩
    · rw [show actL kd kd v m x = actQ kd v m x by unfold actL; rw [if_neg e1, if_neg e5]] at hR
      refine cw_aload_n (pc := 0) dX9_looksActs_0 rfl rfl <|
        cw_getI (q := 67) (pc := 1) dX9_looksActs_1 fX9_231 sh_67 (by decide) rfl <|
        ?_
      rw [hkd]
      refine cw_iconst (v := 2) (pc := 4) dX9_looksActs_4 (by decide) <|
        cw_insI (pc := 5) dX9_looksActs_5 (c_X9_isUnder (a := kd) (b := 2) hk6 (by decide)) vX9_234 rfl rfl rfl (by decide) <|
        cw_if_eq_T (tgt := 24) (pc := 8) dX9_looksActs_8 (by decide) (bI_0.mpr hu) <|
        cw_aload_n (pc := 24) dX9_looksActs_24 rfl rfl <|
        cw_getI (q := 67) (pc := 25) dX9_looksActs_25 fX9_231 sh_67 (by decide) rfl <|
        ?_
      rw [hkd]
      refine cw_bipush (v := 6) (pc := 28) dX9_looksActs_28 (by decide) <|
        cw_icmp_ne_T (tgt := 50) (pc := 30) dX9_looksActs_30 (by decide) (fun e => e5 ((nI_eq (by omega) (by decide)).mp (show nI kd = nI 6 from e))) <|
        cw_aload_n (pc := 50) dX9_looksActs_50 rfl rfl <|
        cw_iload_n (pc := 51) dX9_looksActs_51 rfl rfl <|
        cw_invP (q := 67) (pc := 52) dX9_looksActs_52 (c_X9_plainLooks h hm hkd hv hk6 (by omega)) rfl vX9_246 sh_67 (by decide) rfl rfl rfl (by decide) <|
        ?_
      rintro _ m2 ⟨rfl, h2, s2⟩
      refine cw_iret (pc := 55) dX9_looksActs_55 hR <|
        ⟨rfl, h2, s2⟩
set_option maxHeartbeats 4000000 in
set_option maxRecDepth 100000 in
theorem c_X9_plainTelling {E : Ev} {μ : Mem} {l : List Int32} (h : TrAt μ 67 18 76 l) {kd : Nat} {v m x : Int32} (hm : μ 67 20 = m) (hkd : μ 67 19 = nI kd) (hv : μ 67 21 = v) (hk6 : kd ≤ 6) (hl : l.length + 5 ≤ 20) : AM E yX9_plainTelling cX9_plainTelling 2 (some .int) 5 [.ref 67, .int x] μ (fun r μ' => r = some (.int (actT kd v m x).1) ∧ TrAt μ' 67 18 76 (l ++ (actT kd v m x).2) ∧ Same DM μ μ') := by
  refine am_of (own := RX9) (L := [.ref 67, .int x]) (by decide) rfl (Nat.le_of_ble_eq_true rfl) rfl (fun Γ hR => ?_)
  refine cw_aload_n (pc := 0) dX9_plainTelling_0 rfl rfl <|
    cw_iconst (v := 3) (pc := 1) dX9_plainTelling_1 (by decide) <|
    cw_invP (q := 67) (pc := 2) dX9_plainTelling_2 (c_X9_ranBody h (by omega)) rfl vX9_225 sh_67 (by decide) rfl rfl rfl (by decide) <|
    ?_
  rintro _ m1 ⟨rfl, h1, s1⟩
  have f1 : ∀ i, i ≠ 18 → m1 67 i = μ 67 i := fun i hi => s1 _ _ (by unfold DM; omega)
  have hl1 : (l ++ [3]).length = l.length + 1 := by simp
  refine cw_aload_n (pc := 5) dX9_plainTelling_5 rfl rfl <|
    cw_iload_n (pc := 6) dX9_plainTelling_6 rfl rfl <|
    cw_invP (q := 67) (pc := 7) dX9_plainTelling_7 (c_X9_looksActs h1 ((f1 20 (by decide)).trans hm) ((f1 19 (by decide)).trans hkd) ((f1 21 (by decide)).trans hv) hk6 (by omega)) rfl vX9_249 sh_67 (by decide) rfl rfl rfl (by decide) <|
    ?_
  rintro _ m2 ⟨rfl, h2, s2⟩
  have f2 : ∀ i, i ≠ 18 → m2 67 i = μ 67 i := fun i hi => (s2 _ _ (by unfold DM; omega)).trans (f1 i hi)
  refine cw_iconst (v := 2) (pc := 10) dX9_plainTelling_10 (by decide) <|
    cw_imul (pc := 11) dX9_plainTelling_11 <|
    cw_iret (pc := 12) dX9_plainTelling_12 hR <|
    ⟨rfl, (by have e := h2; rw [List.append_assoc] at e; exact e), s1.tr s2⟩
set_option maxHeartbeats 4000000 in
set_option maxRecDepth 100000 in
theorem c_X9_swearsActs {E : Ev} {μ : Mem} {l : List Int32} (h : TrAt μ 67 18 76 l) {kd : Nat} {v m x : Int32} (hm : μ 67 20 = m) (hkd : μ 67 19 = nI kd) (hv : μ 67 21 = v) (hk6 : kd ≤ 6) (hl : l.length + 8 ≤ 20) : AM E yX9_swearsActs cX9_swearsActs 3 (some .int) 6 [.ref 67, .int x] μ (fun r μ' => r = some (.int (actS kd kd v m x).1) ∧ TrAt μ' 67 18 76 (l ++ (actS kd kd v m x).2) ∧ Same DM μ μ') := by
  refine am_of (own := RX9) (L := [.ref 67, .int x, .null]) (by decide) rfl (Nat.le_of_ble_eq_true rfl) rfl (fun Γ hR => ?_)
  by_cases e1 : kd = 3 ∨ kd = 6
  · have hu : undN kd 3 := by unfold undN; omega
    rw [show actS kd kd v m x = ((actT kd v m x).1 ^^^ 7, 31 :: (actT kd v m x).2) from if_pos e1] at hR
    refine cw_aload_n (pc := 0) dX9_swearsActs_0 rfl rfl <|
      cw_getI (q := 67) (pc := 1) dX9_swearsActs_1 fX9_231 sh_67 (by decide) rfl <|
      ?_
    rw [hkd]
    refine cw_iconst (v := 3) (pc := 4) dX9_swearsActs_4 (by decide) <|
      cw_insI (pc := 5) dX9_swearsActs_5 (c_X9_isUnder (a := kd) (b := 3) hk6 (by decide)) vX9_234 rfl rfl rfl (by decide) <|
      cw_if_eq_F (tgt := 26) (pc := 8) dX9_swearsActs_8 (by decide) (bI_n0.mpr hu) <|
      cw_aload_n (pc := 11) dX9_swearsActs_11 rfl rfl <|
      cw_bipush (v := 31) (pc := 12) dX9_swearsActs_12 (by decide) <|
      cw_invP (q := 67) (pc := 14) dX9_swearsActs_14 (c_X9_ranBody h (by omega)) rfl vX9_225 sh_67 (by decide) rfl rfl rfl (by decide) <|
      ?_
    rintro _ m1 ⟨rfl, h1, s1⟩
    have f1 : ∀ i, i ≠ 18 → m1 67 i = μ 67 i := fun i hi => s1 _ _ (by unfold DM; omega)
    have hl1 : (l ++ [31]).length = l.length + 1 := by simp
    refine cw_aload_n (pc := 17) dX9_swearsActs_17 rfl rfl <|
      cw_iload_n (pc := 18) dX9_swearsActs_18 rfl rfl <|
      cw_invP (q := 67) (pc := 19) dX9_swearsActs_19 (c_X9_plainTelling h1 ((f1 20 (by decide)).trans hm) ((f1 19 (by decide)).trans hkd) ((f1 21 (by decide)).trans hv) hk6 (by omega)) rfl vX9_252 sh_67 (by decide) rfl rfl rfl (by decide) <|
      ?_
    rintro _ m2 ⟨rfl, h2, s2⟩
    have f2 : ∀ i, i ≠ 18 → m2 67 i = μ 67 i := fun i hi => (s2 _ _ (by unfold DM; omega)).trans (f1 i hi)
    refine cw_bipush (v := 7) (pc := 22) dX9_swearsActs_22 (by decide) <|
      cw_ixor (pc := 24) dX9_swearsActs_24 <|
      cw_iret (pc := 25) dX9_swearsActs_25 hR <|
      ⟨rfl, (by have e := h2; rw [List.append_assoc] at e; exact e), s1.tr s2⟩
  · have hu : ¬ undN kd 3 := by unfold undN; omega
    by_cases e5 : kd = 4
    · rw [show actS kd kd v m x = ((actT kd v m (x - 1)).1 + (actP kd m 2).1, 41 :: ((actT kd v m (x - 1)).2 ++ (actP kd m 2).2)) by unfold actS; rw [if_neg e1, if_pos e5]] at hR
      have lt := actT_len kd v m (x - 1)
      refine cw_aload_n (pc := 0) dX9_swearsActs_0 rfl rfl <|
        cw_getI (q := 67) (pc := 1) dX9_swearsActs_1 fX9_231 sh_67 (by decide) rfl <|
        ?_
      rw [hkd]
      refine cw_iconst (v := 3) (pc := 4) dX9_swearsActs_4 (by decide) <|
        cw_insI (pc := 5) dX9_swearsActs_5 (c_X9_isUnder (a := kd) (b := 3) hk6 (by decide)) vX9_234 rfl rfl rfl (by decide) <|
        cw_if_eq_T (tgt := 26) (pc := 8) dX9_swearsActs_8 (by decide) (bI_0.mpr hu) <|
        cw_aload_n (pc := 26) dX9_swearsActs_26 rfl rfl <|
        cw_getI (q := 67) (pc := 27) dX9_swearsActs_27 fX9_231 sh_67 (by decide) rfl <|
        ?_
      rw [hkd]
      refine cw_iconst (v := 4) (pc := 30) dX9_swearsActs_30 (by decide) <|
        cw_icmp_ne_F (tgt := 56) (pc := 31) dX9_swearsActs_31 (by decide) (by rw [e5]; rfl) <|
        cw_aload_n (pc := 34) dX9_swearsActs_34 rfl rfl <|
        cw_bipush (v := 41) (pc := 35) dX9_swearsActs_35 (by decide) <|
        cw_invP (q := 67) (pc := 37) dX9_swearsActs_37 (c_X9_ranBody h (by omega)) rfl vX9_225 sh_67 (by decide) rfl rfl rfl (by decide) <|
        ?_
      rintro _ m1 ⟨rfl, h1, s1⟩
      have f1 : ∀ i, i ≠ 18 → m1 67 i = μ 67 i := fun i hi => s1 _ _ (by unfold DM; omega)
      have hl1 : (l ++ [41]).length = l.length + 1 := by simp
      refine cw_aload_n (pc := 40) dX9_swearsActs_40 rfl rfl <|
        cw_iload_n (pc := 41) dX9_swearsActs_41 rfl rfl <|
        cw_iconst (v := 1) (pc := 42) dX9_swearsActs_42 (by decide) <|
        cw_isub (pc := 43) dX9_swearsActs_43 <|
        cw_invP (q := 67) (pc := 44) dX9_swearsActs_44 (c_X9_plainTelling h1 ((f1 20 (by decide)).trans hm) ((f1 19 (by decide)).trans hkd) ((f1 21 (by decide)).trans hv) hk6 (by omega)) rfl vX9_252 sh_67 (by decide) rfl rfl rfl (by decide) <|
        ?_
      rintro _ m2 ⟨rfl, h2, s2⟩
      have f2 : ∀ i, i ≠ 18 → m2 67 i = μ 67 i := fun i hi => (s2 _ _ (by unfold DM; omega)).trans (f1 i hi)
      refine cw_istore_n (L' := [_, _, _]) (pc := 47) dX9_swearsActs_47 rfl (by decide) rfl rfl <|
        cw_iload_n (pc := 48) dX9_swearsActs_48 rfl rfl <|
        cw_aload_n (pc := 49) dX9_swearsActs_49 rfl rfl <|
        cw_iconst (v := 2) (pc := 50) dX9_swearsActs_50 (by decide) <|
        cw_invP (q := 67) (pc := 51) dX9_swearsActs_51 (c_X9_ploughsActs h2 ((f2 20 (by decide)).trans hm) ((f2 19 (by decide)).trans hkd) ((f2 21 (by decide)).trans hv) hk6 (by rw [List.length_append]; omega)) rfl vX9_240 sh_67 (by decide) rfl rfl rfl (by decide) <|
        ?_
      rintro _ m3 ⟨rfl, h3, s3⟩
      refine cw_iadd (pc := 54) dX9_swearsActs_54 <|
        cw_iret (pc := 55) dX9_swearsActs_55 hR <|
        ⟨rfl, (by have e := h3; rw [List.append_assoc, List.append_assoc] at e; exact e), s1.tr (s2.tr s3)⟩
    · rw [show actS kd kd v m x = actT kd v m x by unfold actS; rw [if_neg e1, if_neg e5]] at hR
      refine cw_aload_n (pc := 0) dX9_swearsActs_0 rfl rfl <|
        cw_getI (q := 67) (pc := 1) dX9_swearsActs_1 fX9_231 sh_67 (by decide) rfl <|
        ?_
      rw [hkd]
      refine cw_iconst (v := 3) (pc := 4) dX9_swearsActs_4 (by decide) <|
        cw_insI (pc := 5) dX9_swearsActs_5 (c_X9_isUnder (a := kd) (b := 3) hk6 (by decide)) vX9_234 rfl rfl rfl (by decide) <|
        cw_if_eq_T (tgt := 26) (pc := 8) dX9_swearsActs_8 (by decide) (bI_0.mpr hu) <|
        cw_aload_n (pc := 26) dX9_swearsActs_26 rfl rfl <|
        cw_getI (q := 67) (pc := 27) dX9_swearsActs_27 fX9_231 sh_67 (by decide) rfl <|
        ?_
      rw [hkd]
      refine cw_iconst (v := 4) (pc := 30) dX9_swearsActs_30 (by decide) <|
        cw_icmp_ne_T (tgt := 56) (pc := 31) dX9_swearsActs_31 (by decide) (fun e => e5 ((nI_eq (by omega) (by decide)).mp (show nI kd = nI 4 from e))) <|
        cw_aload_n (pc := 56) dX9_swearsActs_56 rfl rfl <|
        cw_iload_n (pc := 57) dX9_swearsActs_57 rfl rfl <|
        cw_invP (q := 67) (pc := 58) dX9_swearsActs_58 (c_X9_plainTelling h hm hkd hv hk6 (by omega)) rfl vX9_252 sh_67 (by decide) rfl rfl rfl (by decide) <|
        ?_
      rintro _ m2 ⟨rfl, h2, s2⟩
      refine cw_iret (pc := 61) dX9_swearsActs_61 hR <|
        ⟨rfl, h2, s2⟩
def DX : Nat → Nat → Prop := fun q i => (q = 67 ∧ 18 ≤ i) ∨ q = 76
theorem DM_DX {μ μ' : Mem} (h : Same DM μ μ') : Same DX μ μ' := h.mo (fun q i h => by unfold DM at h; unfold DX; omega)
theorem tr_nil' {μ : Mem} {q f qa : Nat} (h : μ q f = 0) : TrAt μ q f qa [] := ⟨h, by decide, fun i b hb => by simp at hb⟩
set_option maxHeartbeats 4000000 in
set_option maxRecDepth 100000 in
theorem c_X9_act {E : Ev} {μ : Mem} {s : Row} (hs : μ 68 = s) {n mk : Nat} {code : PCo} (hI : Inv s n code mk) {x a z : Int32} : AM E yX9_act cX9_act 4 (some .int) 7 [.ref 67, .int x, .int a, .int z] μ (fun r μ' => r = some (.int (actA s x a z).1) ∧ TrAt μ' 67 18 76 (actA s x a z).2 ∧ Same DX μ μ') := by
  refine am_of (own := RX9) (L := [.ref 67, .int x, .int a, .int z]) (by decide) rfl (Nat.le_of_ble_eq_true rfl) rfl (fun Γ hR => ?_)
  subst hs
  have hI0 := hI
  obtain ⟨hIL, hIP, hIC, hIS, hIW, hIB, hIT⟩ := hI
  have hn := hIL.1
  have h6 := hIL.2.1
  by_cases hx : 0 ≤ x ∧ x < μ 68 31
  · by_cases ha : 0 ≤ a ∧ a < 3
    · obtain ⟨p, hp, rfl⟩ := isM_of hn h6 hx
      obtain ⟨k, hk, ek⟩ := (hIL.2.2.2.2.2.2 p hp).2
      have nk : nN (μ 68 (39 + nN (nI p))) = k := by rw [nN_nI (by omega), ek]; exact nN_nI (by omega)
      have np' : nN (nI p) = p := nN_nI (by omega)
      have ha3 : a = 0 ∨ a = 1 ∨ a = 2 := by
        obtain ⟨q, hq, rfl⟩ := ix_of (n := 3) (by decide) ha
        rcases (show q = 0 ∨ q = 1 ∨ q = 2 by omega) with rfl | rfl | rfl
        · exact Or.inl rfl
        · exact Or.inr (Or.inl rfl)
        · exact Or.inr (Or.inr rfl)
      have M4 : ∃ m4, m4 = st (st (st (st μ 67 18 0) 67 19 (nI k)) 67 20 (nI p)) 67 21 (μ 68 (45 + p)) := ⟨_, rfl⟩
      obtain ⟨m4, em4⟩ := M4
      have t0 : TrAt m4 67 18 76 [] := tr_nil' (by rw [em4]; simp [st_at])
      have f20 : m4 67 20 = nI p := by rw [em4]; simp [st_at]
      have f19 : m4 67 19 = nI k := by rw [em4]; simp [st_at]
      have f21 : m4 67 21 = μ 68 (45 + p) := by rw [em4]; simp [st_at]
      have s0 : Same DX μ m4 := by rw [em4]; exact (((Same.rf.s1 (Or.inl ⟨rfl, by decide⟩)).s1 (Or.inl ⟨rfl, by decide⟩)).s1 (Or.inl ⟨rfl, by decide⟩)).s1 (Or.inl ⟨rfl, by decide⟩)
      rcases ha3 with rfl | rfl | rfl
      · have ea : actA (μ 68) (nI p) 0 z = actP k (nI p) z := by unfold actA; rw [if_pos ⟨hx, by decide⟩, if_pos rfl, nk]
        refine cw_aload_n (pc := 0) dX9_act_0 rfl rfl <|
          cw_iconst (v := 0) (pc := 1) dX9_act_1 (by decide) <|
          cw_putI (q := 67) (pc := 2) dX9_act_2 pX9_222 sh_67 (by decide) rfl <|
          cw_aload_n (pc := 5) dX9_act_5 rfl rfl <|
          cw_iload_n (pc := 6) dX9_act_6 rfl rfl <|
          cw_invI (q := 67) (pc := 7) dX9_act_7 (c_X9_isMan ((st_at.trans (if_neg (by decide))).trans hn) h6) rfl vX9_162 sh_67 (by decide) rfl rfl rfl (by decide) <|
          cw_if_eq_F (tgt := 22) (pc := 10) dX9_act_10 (by decide) (bI_n0.mpr hx) <|
          cw_iload_n (pc := 13) dX9_act_13 rfl rfl <|
          cw_iconst (v := 0) (pc := 14) dX9_act_14 (by decide) <|
          cw_iconst (v := 2) (pc := 15) dX9_act_15 (by decide) <|
          cw_insI (pc := 16) dX9_act_16 c_X9_in vX9_44 rfl rfl rfl (by decide) <|
          cw_if_ne_T (tgt := 24) (pc := 19) dX9_act_19 (by decide) (bI_n0.mpr (by decide)) <|
          cw_aload_n (pc := 24) dX9_act_24 rfl rfl <|
          cw_aload_n (pc := 25) dX9_act_25 rfl rfl <|
          cw_getR (q := 67) (t := 68) (pc := 26) dX9_act_26 fX9_9 sh_67 (by decide) rfl <|
          cw_bipush (v := 39) (pc := 29) dX9_act_29 (by decide) <|
          cw_iload_n (pc := 31) dX9_act_31 rfl rfl <|
          cw_iadd (pc := 32) dX9_act_32 <|
          cw_ial (q := 68) (jn := (39 + p)) (pc := 33) dX9_act_33 sh_68 (nx_add rfl rfl) (by omega) (by decide) <|
          ?_
        rw [show (st μ 67 18 0) 68 (39 + p) = nI k from ek]
        refine cw_putI (q := 67) (pc := 34) dX9_act_34 pX9_231 sh_67 (by decide) rfl <|
          cw_aload_n (pc := 37) dX9_act_37 rfl rfl <|
          cw_iload_n (pc := 38) dX9_act_38 rfl rfl <|
          cw_putI (q := 67) (pc := 39) dX9_act_39 pX9_228 sh_67 (by decide) rfl <|
          cw_aload_n (pc := 42) dX9_act_42 rfl rfl <|
          cw_aload_n (pc := 43) dX9_act_43 rfl rfl <|
          cw_getR (q := 67) (t := 68) (pc := 44) dX9_act_44 fX9_9 sh_67 (by decide) rfl <|
          cw_bipush (v := 45) (pc := 47) dX9_act_47 (by decide) <|
          cw_iload_n (pc := 49) dX9_act_49 rfl rfl <|
          cw_iadd (pc := 50) dX9_act_50 <|
          cw_ial (q := 68) (jn := (45 + p)) (pc := 51) dX9_act_51 sh_68 (nx_add rfl rfl) (by omega) (by decide) <|
          ?_
        rw [show (st (st (st μ 67 18 0) 67 19 (nI k)) 67 20 (nI p)) 68 (45 + p) = μ 68 (45 + p) from rfl]
        refine cw_putI (q := 67) (pc := 52) dX9_act_52 pX9_243 sh_67 (by decide) rfl <|
          ?_
        rw [← em4]
        refine cw_iload_n (pc := 55) dX9_act_55 rfl rfl <|
          cw_if_ne_F (tgt := 67) (pc := 56) dX9_act_56 (by decide) rfl <|
          cw_aload_n (pc := 59) dX9_act_59 rfl rfl <|
          cw_iload_n (pc := 60) dX9_act_60 rfl rfl <|
          cw_invP (q := 67) (pc := 61) dX9_act_61 (c_X9_ploughsActs t0 f20 f19 f21 hk (by decide)) rfl vX9_240 sh_67 (by decide) rfl rfl rfl (by decide) <|
          ?_
        rintro _ m2 ⟨rfl, h2, s2⟩
        refine cw_goto (tgt := 85) (pc := 64) dX9_act_64 (by decide) <|
          cw_iret (pc := 85) dX9_act_85 hR <|
          ⟨by rw [ea], by rw [ea]; exact h2, s0.tr (DM_DX s2)⟩
      · have ea : actA (μ 68) (nI p) 1 z = actL k k (μ 68 (45 + p)) (nI p) z := by unfold actA; rw [if_pos ⟨hx, by decide⟩, if_neg (by decide), if_pos rfl, nk, np']
        refine cw_aload_n (pc := 0) dX9_act_0 rfl rfl <|
          cw_iconst (v := 0) (pc := 1) dX9_act_1 (by decide) <|
          cw_putI (q := 67) (pc := 2) dX9_act_2 pX9_222 sh_67 (by decide) rfl <|
          cw_aload_n (pc := 5) dX9_act_5 rfl rfl <|
          cw_iload_n (pc := 6) dX9_act_6 rfl rfl <|
          cw_invI (q := 67) (pc := 7) dX9_act_7 (c_X9_isMan ((st_at.trans (if_neg (by decide))).trans hn) h6) rfl vX9_162 sh_67 (by decide) rfl rfl rfl (by decide) <|
          cw_if_eq_F (tgt := 22) (pc := 10) dX9_act_10 (by decide) (bI_n0.mpr hx) <|
          cw_iload_n (pc := 13) dX9_act_13 rfl rfl <|
          cw_iconst (v := 0) (pc := 14) dX9_act_14 (by decide) <|
          cw_iconst (v := 2) (pc := 15) dX9_act_15 (by decide) <|
          cw_insI (pc := 16) dX9_act_16 c_X9_in vX9_44 rfl rfl rfl (by decide) <|
          cw_if_ne_T (tgt := 24) (pc := 19) dX9_act_19 (by decide) (bI_n0.mpr (by decide)) <|
          cw_aload_n (pc := 24) dX9_act_24 rfl rfl <|
          cw_aload_n (pc := 25) dX9_act_25 rfl rfl <|
          cw_getR (q := 67) (t := 68) (pc := 26) dX9_act_26 fX9_9 sh_67 (by decide) rfl <|
          cw_bipush (v := 39) (pc := 29) dX9_act_29 (by decide) <|
          cw_iload_n (pc := 31) dX9_act_31 rfl rfl <|
          cw_iadd (pc := 32) dX9_act_32 <|
          cw_ial (q := 68) (jn := (39 + p)) (pc := 33) dX9_act_33 sh_68 (nx_add rfl rfl) (by omega) (by decide) <|
          ?_
        rw [show (st μ 67 18 0) 68 (39 + p) = nI k from ek]
        refine cw_putI (q := 67) (pc := 34) dX9_act_34 pX9_231 sh_67 (by decide) rfl <|
          cw_aload_n (pc := 37) dX9_act_37 rfl rfl <|
          cw_iload_n (pc := 38) dX9_act_38 rfl rfl <|
          cw_putI (q := 67) (pc := 39) dX9_act_39 pX9_228 sh_67 (by decide) rfl <|
          cw_aload_n (pc := 42) dX9_act_42 rfl rfl <|
          cw_aload_n (pc := 43) dX9_act_43 rfl rfl <|
          cw_getR (q := 67) (t := 68) (pc := 44) dX9_act_44 fX9_9 sh_67 (by decide) rfl <|
          cw_bipush (v := 45) (pc := 47) dX9_act_47 (by decide) <|
          cw_iload_n (pc := 49) dX9_act_49 rfl rfl <|
          cw_iadd (pc := 50) dX9_act_50 <|
          cw_ial (q := 68) (jn := (45 + p)) (pc := 51) dX9_act_51 sh_68 (nx_add rfl rfl) (by omega) (by decide) <|
          ?_
        rw [show (st (st (st μ 67 18 0) 67 19 (nI k)) 67 20 (nI p)) 68 (45 + p) = μ 68 (45 + p) from rfl]
        refine cw_putI (q := 67) (pc := 52) dX9_act_52 pX9_243 sh_67 (by decide) rfl <|
          ?_
        rw [← em4]
        refine cw_iload_n (pc := 55) dX9_act_55 rfl rfl <|
          cw_if_ne_T (tgt := 67) (pc := 56) dX9_act_56 (by decide) (by decide) <|
          cw_iload_n (pc := 67) dX9_act_67 rfl rfl <|
          cw_iconst (v := 1) (pc := 68) dX9_act_68 (by decide) <|
          cw_icmp_ne_F (tgt := 80) (pc := 69) dX9_act_69 (by decide) rfl <|
          cw_aload_n (pc := 72) dX9_act_72 rfl rfl <|
          cw_iload_n (pc := 73) dX9_act_73 rfl rfl <|
          cw_invP (q := 67) (pc := 74) dX9_act_74 (c_X9_looksActs t0 f20 f19 f21 hk (by decide)) rfl vX9_249 sh_67 (by decide) rfl rfl rfl (by decide) <|
          ?_
        rintro _ m2 ⟨rfl, h2, s2⟩
        refine cw_goto (tgt := 85) (pc := 77) dX9_act_77 (by decide) <|
          cw_iret (pc := 85) dX9_act_85 hR <|
          ⟨by rw [ea], by rw [ea]; exact h2, s0.tr (DM_DX s2)⟩
      · have ea : actA (μ 68) (nI p) 2 z = actS k k (μ 68 (45 + p)) (nI p) z := by unfold actA; rw [if_pos ⟨hx, by decide⟩, if_neg (by decide), if_neg (by decide), nk, np']
        refine cw_aload_n (pc := 0) dX9_act_0 rfl rfl <|
          cw_iconst (v := 0) (pc := 1) dX9_act_1 (by decide) <|
          cw_putI (q := 67) (pc := 2) dX9_act_2 pX9_222 sh_67 (by decide) rfl <|
          cw_aload_n (pc := 5) dX9_act_5 rfl rfl <|
          cw_iload_n (pc := 6) dX9_act_6 rfl rfl <|
          cw_invI (q := 67) (pc := 7) dX9_act_7 (c_X9_isMan ((st_at.trans (if_neg (by decide))).trans hn) h6) rfl vX9_162 sh_67 (by decide) rfl rfl rfl (by decide) <|
          cw_if_eq_F (tgt := 22) (pc := 10) dX9_act_10 (by decide) (bI_n0.mpr hx) <|
          cw_iload_n (pc := 13) dX9_act_13 rfl rfl <|
          cw_iconst (v := 0) (pc := 14) dX9_act_14 (by decide) <|
          cw_iconst (v := 2) (pc := 15) dX9_act_15 (by decide) <|
          cw_insI (pc := 16) dX9_act_16 c_X9_in vX9_44 rfl rfl rfl (by decide) <|
          cw_if_ne_T (tgt := 24) (pc := 19) dX9_act_19 (by decide) (bI_n0.mpr (by decide)) <|
          cw_aload_n (pc := 24) dX9_act_24 rfl rfl <|
          cw_aload_n (pc := 25) dX9_act_25 rfl rfl <|
          cw_getR (q := 67) (t := 68) (pc := 26) dX9_act_26 fX9_9 sh_67 (by decide) rfl <|
          cw_bipush (v := 39) (pc := 29) dX9_act_29 (by decide) <|
          cw_iload_n (pc := 31) dX9_act_31 rfl rfl <|
          cw_iadd (pc := 32) dX9_act_32 <|
          cw_ial (q := 68) (jn := (39 + p)) (pc := 33) dX9_act_33 sh_68 (nx_add rfl rfl) (by omega) (by decide) <|
          ?_
        rw [show (st μ 67 18 0) 68 (39 + p) = nI k from ek]
        refine cw_putI (q := 67) (pc := 34) dX9_act_34 pX9_231 sh_67 (by decide) rfl <|
          cw_aload_n (pc := 37) dX9_act_37 rfl rfl <|
          cw_iload_n (pc := 38) dX9_act_38 rfl rfl <|
          cw_putI (q := 67) (pc := 39) dX9_act_39 pX9_228 sh_67 (by decide) rfl <|
          cw_aload_n (pc := 42) dX9_act_42 rfl rfl <|
          cw_aload_n (pc := 43) dX9_act_43 rfl rfl <|
          cw_getR (q := 67) (t := 68) (pc := 44) dX9_act_44 fX9_9 sh_67 (by decide) rfl <|
          cw_bipush (v := 45) (pc := 47) dX9_act_47 (by decide) <|
          cw_iload_n (pc := 49) dX9_act_49 rfl rfl <|
          cw_iadd (pc := 50) dX9_act_50 <|
          cw_ial (q := 68) (jn := (45 + p)) (pc := 51) dX9_act_51 sh_68 (nx_add rfl rfl) (by omega) (by decide) <|
          ?_
        rw [show (st (st (st μ 67 18 0) 67 19 (nI k)) 67 20 (nI p)) 68 (45 + p) = μ 68 (45 + p) from rfl]
        refine cw_putI (q := 67) (pc := 52) dX9_act_52 pX9_243 sh_67 (by decide) rfl <|
          ?_
        rw [← em4]
        refine cw_iload_n (pc := 55) dX9_act_55 rfl rfl <|
          cw_if_ne_T (tgt := 67) (pc := 56) dX9_act_56 (by decide) (by decide) <|
          cw_iload_n (pc := 67) dX9_act_67 rfl rfl <|
          cw_iconst (v := 1) (pc := 68) dX9_act_68 (by decide) <|
          cw_icmp_ne_T (tgt := 80) (pc := 69) dX9_act_69 (by decide) (by decide) <|
          cw_aload_n (pc := 80) dX9_act_80 rfl rfl <|
          cw_iload_n (pc := 81) dX9_act_81 rfl rfl <|
          cw_invP (q := 67) (pc := 82) dX9_act_82 (c_X9_swearsActs t0 f20 f19 f21 hk (by decide)) rfl vX9_255 sh_67 (by decide) rfl rfl rfl (by decide) <|
          ?_
        rintro _ m2 ⟨rfl, h2, s2⟩
        refine cw_iret (pc := 85) dX9_act_85 hR <|
          ⟨by rw [ea], by rw [ea]; exact h2, s0.tr (DM_DX s2)⟩
    · refine cw_aload_n (pc := 0) dX9_act_0 rfl rfl <|
        cw_iconst (v := 0) (pc := 1) dX9_act_1 (by decide) <|
        cw_putI (q := 67) (pc := 2) dX9_act_2 pX9_222 sh_67 (by decide) rfl <|
        cw_aload_n (pc := 5) dX9_act_5 rfl rfl <|
        cw_iload_n (pc := 6) dX9_act_6 rfl rfl <|
        cw_invI (q := 67) (pc := 7) dX9_act_7 (c_X9_isMan ((st_at.trans (if_neg (by decide))).trans hn) h6) rfl vX9_162 sh_67 (by decide) rfl rfl rfl (by decide) <|
        cw_if_eq_F (tgt := 22) (pc := 10) dX9_act_10 (by decide) (bI_n0.mpr hx) <|
        cw_iload_n (pc := 13) dX9_act_13 rfl rfl <|
        cw_iconst (v := 0) (pc := 14) dX9_act_14 (by decide) <|
        cw_iconst (v := 2) (pc := 15) dX9_act_15 (by decide) <|
        cw_insI (pc := 16) dX9_act_16 c_X9_in vX9_44 rfl rfl rfl (by decide) <|
        cw_if_ne_F (tgt := 24) (pc := 19) dX9_act_19 (by decide) (bI_0.mpr (fun h => ha ⟨h.1, i_le2.mp h.2⟩)) <|
        cw_iconst (v := 0) (pc := 22) dX9_act_22 (by decide) <|
        cw_iret (pc := 23) dX9_act_23 hR <|
        ⟨by rw [actA, if_neg (fun h => ha h.2)], by rw [actA, if_neg (fun h => ha h.2)]; exact tr_nil' (by simp [st_at]), Same.rf.s1 (Or.inl ⟨rfl, by decide⟩)⟩
  · refine cw_aload_n (pc := 0) dX9_act_0 rfl rfl <|
      cw_iconst (v := 0) (pc := 1) dX9_act_1 (by decide) <|
      cw_putI (q := 67) (pc := 2) dX9_act_2 pX9_222 sh_67 (by decide) rfl <|
      cw_aload_n (pc := 5) dX9_act_5 rfl rfl <|
      cw_iload_n (pc := 6) dX9_act_6 rfl rfl <|
      cw_invI (q := 67) (pc := 7) dX9_act_7 (c_X9_isMan ((st_at.trans (if_neg (by decide))).trans hn) h6) rfl vX9_162 sh_67 (by decide) rfl rfl rfl (by decide) <|
      cw_if_eq_T (tgt := 22) (pc := 10) dX9_act_10 (by decide) (bI_0.mpr hx) <|
      cw_iconst (v := 0) (pc := 22) dX9_act_22 (by decide) <|
      cw_iret (pc := 23) dX9_act_23 hR <|
      ⟨by rw [actA, if_neg (fun h => hx h.1)], by rw [actA, if_neg (fun h => hx h.1)]; exact tr_nil' (by simp [st_at]), Same.rf.s1 (Or.inl ⟨rfl, by decide⟩)⟩
set_option maxHeartbeats 4000000 in
set_option maxRecDepth 100000 in
theorem c_X9_trace {E : Ev} {μ : Mem} {l : List Int32} (h : TrAt μ 67 18 76 l) {x : Int32} : AM E yX9_trace cX9_trace 2 (some .int) 1 [.ref 67, .int x] μ (fun r μ' => r = some (.int (traceA l x)) ∧ μ' = μ) := by
  refine am_of (own := RX9) (L := [.ref 67, .int x]) (by decide) rfl (Nat.le_of_ble_eq_true rfl) rfl (fun Γ hR => ?_)
  have hl := h.2.1
  by_cases hx : 0 ≤ x ∧ x < nI l.length
  · obtain ⟨p, hp, rfl⟩ := ix_of (by omega) hx
    obtain ⟨b, hb⟩ : ∃ b, l[p]? = some b := ⟨_, List.getElem?_eq_getElem hp⟩
    have e2 := h.2.2 p b hb
    by_cases h20 : l.length < 20
    · refine cw_iload_n (pc := 0) dX9_trace_0 rfl rfl <|
        cw_iconst (v := 0) (pc := 1) dX9_trace_1 (by decide) <|
        cw_aload_n (pc := 2) dX9_trace_2 rfl rfl <|
        cw_getI (q := 67) (pc := 3) dX9_trace_3 fX9_222 sh_67 (by decide) rfl <|
        ?_
      rw [h.1]
      refine cw_bipush (v := 20) (pc := 6) dX9_trace_6 (by decide) <|
        cw_icmp_ge_F (tgt := 18) (pc := 8) dX9_trace_8 (by decide) (nI_ge (b := 20) h20 (by decide)) <|
        cw_aload_n (pc := 11) dX9_trace_11 rfl rfl <|
        cw_getI (q := 67) (pc := 12) dX9_trace_12 fX9_222 sh_67 (by decide) rfl <|
        ?_
      rw [h.1]
      refine cw_goto (tgt := 20) (pc := 15) dX9_trace_15 (by decide) <|
        cw_iconst (v := 1) (pc := 20) dX9_trace_20 (by decide) <|
        cw_isub (pc := 21) dX9_trace_21 <|
        cw_insI (pc := 22) dX9_trace_22 c_X9_in vX9_44 rfl rfl rfl (by decide) <|
        cw_if_eq_F (tgt := 37) (pc := 25) dX9_trace_25 (by decide) (bI_n0.mpr ⟨hx.1, (i_len (by omega)).mpr hx.2⟩) <|
        cw_aload_n (pc := 28) dX9_trace_28 rfl rfl <|
        cw_getR (q := 67) (t := 76) (pc := 29) dX9_trace_29 fX9_37 sh_67 (by decide) rfl <|
        cw_iload_n (pc := 32) dX9_trace_32 rfl rfl <|
        cw_ial (q := 76) (jn := p) (pc := 33) dX9_trace_33 sh_76 rfl (by omega) (by decide) <|
        ?_
      rw [e2]
      refine cw_goto (tgt := 38) (pc := 34) dX9_trace_34 (by decide) <|
        cw_iret (pc := 38) dX9_trace_38 hR <|
        ⟨by rw [traceA, if_pos hx, nN_nI (by omega), List.getD_eq_getElem?_getD, hb]; rfl, rfl⟩
    · have h20' : l.length = 20 := by omega
      refine cw_iload_n (pc := 0) dX9_trace_0 rfl rfl <|
        cw_iconst (v := 0) (pc := 1) dX9_trace_1 (by decide) <|
        cw_aload_n (pc := 2) dX9_trace_2 rfl rfl <|
        cw_getI (q := 67) (pc := 3) dX9_trace_3 fX9_222 sh_67 (by decide) rfl <|
        ?_
      rw [h.1]
      refine cw_bipush (v := 20) (pc := 6) dX9_trace_6 (by decide) <|
        cw_icmp_ge_T (tgt := 18) (pc := 8) dX9_trace_8 (by decide) (nI_le (a := 20) (by omega) (by omega)) <|
        cw_bipush (v := 20) (pc := 18) dX9_trace_18 (by decide) <|
        cw_iconst (v := 1) (pc := 20) dX9_trace_20 (by decide) <|
        cw_isub (pc := 21) dX9_trace_21 <|
        cw_insI (pc := 22) dX9_trace_22 c_X9_in vX9_44 rfl rfl rfl (by decide) <|
        cw_if_eq_F (tgt := 37) (pc := 25) dX9_trace_25 (by decide) (bI_n0.mpr ⟨hx.1, by have := (i_len (n := l.length) (by omega)).mpr hx.2; rw [h20'] at this; exact this⟩) <|
        cw_aload_n (pc := 28) dX9_trace_28 rfl rfl <|
        cw_getR (q := 67) (t := 76) (pc := 29) dX9_trace_29 fX9_37 sh_67 (by decide) rfl <|
        cw_iload_n (pc := 32) dX9_trace_32 rfl rfl <|
        cw_ial (q := 76) (jn := p) (pc := 33) dX9_trace_33 sh_76 rfl (by omega) (by decide) <|
        ?_
      rw [e2]
      refine cw_goto (tgt := 38) (pc := 34) dX9_trace_34 (by decide) <|
        cw_iret (pc := 38) dX9_trace_38 hR <|
        ⟨by rw [traceA, if_pos hx, nN_nI (by omega), List.getD_eq_getElem?_getD, hb]; rfl, rfl⟩
  · by_cases h20 : l.length < 20
    · refine cw_iload_n (pc := 0) dX9_trace_0 rfl rfl <|
        cw_iconst (v := 0) (pc := 1) dX9_trace_1 (by decide) <|
        cw_aload_n (pc := 2) dX9_trace_2 rfl rfl <|
        cw_getI (q := 67) (pc := 3) dX9_trace_3 fX9_222 sh_67 (by decide) rfl <|
        ?_
      rw [h.1]
      refine cw_bipush (v := 20) (pc := 6) dX9_trace_6 (by decide) <|
        cw_icmp_ge_F (tgt := 18) (pc := 8) dX9_trace_8 (by decide) (nI_ge (b := 20) h20 (by decide)) <|
        cw_aload_n (pc := 11) dX9_trace_11 rfl rfl <|
        cw_getI (q := 67) (pc := 12) dX9_trace_12 fX9_222 sh_67 (by decide) rfl <|
        ?_
      rw [h.1]
      refine cw_goto (tgt := 20) (pc := 15) dX9_trace_15 (by decide) <|
        cw_iconst (v := 1) (pc := 20) dX9_trace_20 (by decide) <|
        cw_isub (pc := 21) dX9_trace_21 <|
        cw_insI (pc := 22) dX9_trace_22 c_X9_in vX9_44 rfl rfl rfl (by decide) <|
        cw_if_eq_T (tgt := 37) (pc := 25) dX9_trace_25 (by decide) (bI_0.mpr (fun z => hx ⟨z.1, (i_len (by omega)).mp z.2⟩)) <|
        cw_iconst (v := -1) (pc := 37) dX9_trace_37 (by decide) <|
        cw_iret (pc := 38) dX9_trace_38 hR <|
        ⟨by rw [traceA, if_neg hx], rfl⟩
    · have h20' : l.length = 20 := by omega
      refine cw_iload_n (pc := 0) dX9_trace_0 rfl rfl <|
        cw_iconst (v := 0) (pc := 1) dX9_trace_1 (by decide) <|
        cw_aload_n (pc := 2) dX9_trace_2 rfl rfl <|
        cw_getI (q := 67) (pc := 3) dX9_trace_3 fX9_222 sh_67 (by decide) rfl <|
        ?_
      rw [h.1]
      refine cw_bipush (v := 20) (pc := 6) dX9_trace_6 (by decide) <|
        cw_icmp_ge_T (tgt := 18) (pc := 8) dX9_trace_8 (by decide) (nI_le (a := 20) (by omega) (by omega)) <|
        cw_bipush (v := 20) (pc := 18) dX9_trace_18 (by decide) <|
        cw_iconst (v := 1) (pc := 20) dX9_trace_20 (by decide) <|
        cw_isub (pc := 21) dX9_trace_21 <|
        cw_insI (pc := 22) dX9_trace_22 c_X9_in vX9_44 rfl rfl rfl (by decide) <|
        cw_if_eq_T (tgt := 37) (pc := 25) dX9_trace_25 (by decide) (bI_0.mpr (fun z => hx ⟨z.1, by have := z.2; apply (i_len (n := l.length) (by omega)).mp; rw [h20']; exact this⟩)) <|
        cw_iconst (v := -1) (pc := 37) dX9_trace_37 (by decide) <|
        cw_iret (pc := 38) dX9_trace_38 hR <|
        ⟨by rw [traceA, if_neg hx], rfl⟩
set_option maxHeartbeats 4000000 in
set_option maxRecDepth 100000 in
theorem c_X9_as {E : Ev} {μ : Mem} {s : Row} (hs : μ 68 = s) {n mk : Nat} {code : PCo} (hI : Inv s n code mk) {x k : Int32} : AM E yX9_as cX9_as 3 (some .int) 2 [.ref 67, .int x, .int k] μ (fun r μ' => r = some (.int (asA s x k)) ∧ Same MQr μ μ') := by
  refine am_of (own := RX9) (L := [.ref 67, .int x, .int k]) (by decide) rfl (Nat.le_of_ble_eq_true rfl) rfl (fun Γ hR => ?_)
  subst hs
  have hI0 := hI
  obtain ⟨hIL, hIP, hIC, hIS, hIW, hIB, hIT⟩ := hI
  have hn := hIL.1
  have h6 := hIL.2.1
  by_cases hx : 0 ≤ x ∧ x < μ 68 31
  · by_cases hk : 0 ≤ k ∧ k < 7
    · have hk' : 0 ≤ k ∧ k ≤ 6 := ⟨hk.1, i_le6.mpr hk.2⟩
      obtain ⟨p, hp, rfl⟩ := isM_of hn h6 hx
      obtain ⟨q, hq, rfl⟩ := ix_of (n := 7) (by decide) hk
      obtain ⟨j, hj, ej⟩ := (hIL.2.2.2.2.2.2 p hp).2
      have a1 : nN (nI p) = p := nN_nI (by omega)
      have a2 : nN (nI q) = q := nN_nI (by omega)
      have a3 : nN (μ 68 (39 + p)) = j := by rw [ej]; exact nN_nI (by omega)
      by_cases hu : undN j q
      · refine cw_aload_n (pc := 0) dX9_as_0 rfl rfl <|
          cw_iload_n (pc := 1) dX9_as_1 rfl rfl <|
          cw_invI (q := 67) (pc := 2) dX9_as_2 (c_X9_isMan hn h6) rfl vX9_162 sh_67 (by decide) rfl rfl rfl (by decide) <|
          cw_if_eq_F (tgt := 18) (pc := 5) dX9_as_5 (by decide) (bI_n0.mpr hx) <|
          cw_iload_n (pc := 8) dX9_as_8 rfl rfl <|
          cw_iconst (v := 0) (pc := 9) dX9_as_9 (by decide) <|
          cw_bipush (v := 6) (pc := 10) dX9_as_10 (by decide) <|
          cw_insI (pc := 12) dX9_as_12 c_X9_in vX9_44 rfl rfl rfl (by decide) <|
          cw_if_ne_T (tgt := 20) (pc := 15) dX9_as_15 (by decide) (bI_n0.mpr hk') <|
          cw_aload_n (pc := 20) dX9_as_20 rfl rfl <|
          cw_getR (q := 67) (t := 68) (pc := 21) dX9_as_21 fX9_9 sh_67 (by decide) rfl <|
          cw_bipush (v := 39) (pc := 24) dX9_as_24 (by decide) <|
          cw_iload_n (pc := 26) dX9_as_26 rfl rfl <|
          cw_iadd (pc := 27) dX9_as_27 <|
          cw_ial (q := 68) (jn := (39 + p)) (pc := 28) dX9_as_28 sh_68 (nx_add rfl rfl) (by omega) (by decide) <|
          ?_
        rw [ej]
        refine cw_iload_n (pc := 29) dX9_as_29 rfl rfl <|
          cw_insI (pc := 30) dX9_as_30 (c_X9_isUnder (a := j) (b := q) hj (by omega)) vX9_234 rfl rfl rfl (by decide) <|
          cw_if_eq_F (tgt := 48) (pc := 33) dX9_as_33 (by decide) (bI_n0.mpr hu) <|
          cw_aload_n (pc := 36) dX9_as_36 rfl rfl <|
          cw_getR (q := 67) (t := 68) (pc := 37) dX9_as_37 fX9_9 sh_67 (by decide) rfl <|
          cw_bipush (v := 45) (pc := 40) dX9_as_40 (by decide) <|
          cw_iload_n (pc := 42) dX9_as_42 rfl rfl <|
          cw_iadd (pc := 43) dX9_as_43 <|
          cw_ial (q := 68) (jn := (45 + p)) (pc := 44) dX9_as_44 sh_68 (nx_add rfl rfl) (by omega) (by decide) <|
          cw_goto (tgt := 50) (pc := 45) dX9_as_45 (by decide) <|
          cw_iret (pc := 50) dX9_as_50 hR <|
          ⟨by rw [asA, if_pos ⟨hx, hk⟩, a1, a2, a3, if_pos hu], Same.rf⟩
      · refine cw_aload_n (pc := 0) dX9_as_0 rfl rfl <|
          cw_iload_n (pc := 1) dX9_as_1 rfl rfl <|
          cw_invI (q := 67) (pc := 2) dX9_as_2 (c_X9_isMan hn h6) rfl vX9_162 sh_67 (by decide) rfl rfl rfl (by decide) <|
          cw_if_eq_F (tgt := 18) (pc := 5) dX9_as_5 (by decide) (bI_n0.mpr hx) <|
          cw_iload_n (pc := 8) dX9_as_8 rfl rfl <|
          cw_iconst (v := 0) (pc := 9) dX9_as_9 (by decide) <|
          cw_bipush (v := 6) (pc := 10) dX9_as_10 (by decide) <|
          cw_insI (pc := 12) dX9_as_12 c_X9_in vX9_44 rfl rfl rfl (by decide) <|
          cw_if_ne_T (tgt := 20) (pc := 15) dX9_as_15 (by decide) (bI_n0.mpr hk') <|
          cw_aload_n (pc := 20) dX9_as_20 rfl rfl <|
          cw_getR (q := 67) (t := 68) (pc := 21) dX9_as_21 fX9_9 sh_67 (by decide) rfl <|
          cw_bipush (v := 39) (pc := 24) dX9_as_24 (by decide) <|
          cw_iload_n (pc := 26) dX9_as_26 rfl rfl <|
          cw_iadd (pc := 27) dX9_as_27 <|
          cw_ial (q := 68) (jn := (39 + p)) (pc := 28) dX9_as_28 sh_68 (nx_add rfl rfl) (by omega) (by decide) <|
          ?_
        rw [ej]
        refine cw_iload_n (pc := 29) dX9_as_29 rfl rfl <|
          cw_insI (pc := 30) dX9_as_30 (c_X9_isUnder (a := j) (b := q) hj (by omega)) vX9_234 rfl rfl rfl (by decide) <|
          cw_if_eq_T (tgt := 48) (pc := 33) dX9_as_33 (by decide) (bI_0.mpr hu) <|
          cw_bipush (v := -6) (pc := 48) dX9_as_48 (by decide) <|
          cw_iret (pc := 50) dX9_as_50 hR <|
          ⟨by rw [asA, if_pos ⟨hx, hk⟩, a1, a2, a3, if_neg hu], Same.rf⟩
    · refine cw_aload_n (pc := 0) dX9_as_0 rfl rfl <|
        cw_iload_n (pc := 1) dX9_as_1 rfl rfl <|
        cw_invI (q := 67) (pc := 2) dX9_as_2 (c_X9_isMan hn h6) rfl vX9_162 sh_67 (by decide) rfl rfl rfl (by decide) <|
        cw_if_eq_F (tgt := 18) (pc := 5) dX9_as_5 (by decide) (bI_n0.mpr hx) <|
        cw_iload_n (pc := 8) dX9_as_8 rfl rfl <|
        cw_iconst (v := 0) (pc := 9) dX9_as_9 (by decide) <|
        cw_bipush (v := 6) (pc := 10) dX9_as_10 (by decide) <|
        cw_insI (pc := 12) dX9_as_12 c_X9_in vX9_44 rfl rfl rfl (by decide) <|
        cw_if_ne_F (tgt := 20) (pc := 15) dX9_as_15 (by decide) (bI_0.mpr (fun h => hk ⟨h.1, i_le6.mp h.2⟩)) <|
        cw_iconst (v := -1) (pc := 18) dX9_as_18 (by decide) <|
        cw_iret (pc := 19) dX9_as_19 hR <|
        ⟨by rw [asA, if_neg (fun h => hk h.2)], Same.rf⟩
  · refine cw_aload_n (pc := 0) dX9_as_0 rfl rfl <|
      cw_iload_n (pc := 1) dX9_as_1 rfl rfl <|
      cw_invI (q := 67) (pc := 2) dX9_as_2 (c_X9_isMan hn h6) rfl vX9_162 sh_67 (by decide) rfl rfl rfl (by decide) <|
      cw_if_eq_T (tgt := 18) (pc := 5) dX9_as_5 (by decide) (bI_0.mpr hx) <|
      cw_iconst (v := -1) (pc := 18) dX9_as_18 (by decide) <|
      cw_iret (pc := 19) dX9_as_19 hR <|
      ⟨by rw [asA, if_neg (fun h => hx h.1)], Same.rf⟩
theorem cp_s69 (μ : Mem) (i : Nat) : st (str μ 69 (fun k => if k < i then μ 68 k else μ 69 k)) 69 i (μ 68 i) = str μ 69 (fun k => if k < i + 1 then μ 68 k else μ 69 k) := by
  funext q j
  by_cases hq : q = 69
  · subst hq
    rw [st_at, str_at, str_at, if_pos rfl, if_pos rfl]
    by_cases hj : j = i
    · subst hj; simp
    · simp only [hj, and_false, if_false]
      by_cases h1 : j < i
      · rw [if_pos h1, if_pos (by omega)]
      · rw [if_neg h1, if_neg (by omega)]
  · rw [st_at, if_neg (fun h => hq h.1), str_at, str_at, if_neg hq, if_neg hq]
theorem cp_s68 (μ : Mem) (i : Nat) : st (str μ 68 (fun k => if k < i then μ 69 k else μ 68 k)) 68 i (μ 69 i) = str μ 68 (fun k => if k < i + 1 then μ 69 k else μ 68 k) := by
  funext q j
  by_cases hq : q = 68
  · subst hq
    rw [st_at, str_at, str_at, if_pos rfl, if_pos rfl]
    by_cases hj : j = i
    · subst hj; simp
    · simp only [hj, and_false, if_false]
      by_cases h1 : j < i
      · rw [if_pos h1, if_pos (by omega)]
      · rw [if_neg h1, if_neg (by omega)]
  · rw [st_at, if_neg (fun h => hq h.1), str_at, str_at, if_neg hq, if_neg hq]
def IMF : Nat → Nat → Prop := fun q i => q = 69 ∨ (q = 67 ∧ i = 4)
def UNF : Nat → Nat → Prop := fun q _ => q = 68
set_option maxHeartbeats 4000000 in
set_option maxRecDepth 100000 in
theorem c_X9_image {E : Ev} {μ : Mem} {s : Row} (hs : μ 68 = s) {n : Nat} (hn : s 31 = nI n) : AM E yX9_image cX9_image 2 (some .int) 0 [.ref 67] μ (fun r μ' => r = some (.int (s 31)) ∧ (∀ k, k < 948 → μ' 69 k = s k) ∧ μ' 67 4 = 1 ∧ Same IMF μ μ') := by
  refine am_of (own := RX9) (L := [.ref 67, .null]) (by decide) rfl (Nat.le_of_ble_eq_true rfl) rfl (fun Γ hR => ?_)
  subst hs
  refine cw_iconst (v := 0) (pc := 0) dX9_image_0 (by decide) <|
    cw_istore_n (L' := [_, _]) (pc := 1) dX9_image_1 rfl (by decide) rfl rfl <|
    ?_
  refine cw_for (σ := Unit) 948 (fun i _ m => m = str μ 69 (fun k => if k < i then μ 68 k else μ 69 k)) (fun i _ => [.ref 67, .int (nI i)]) ?_ ?_ 0 () _ (Nat.zero_le _) ?_
  · rintro ⟨⟩ m rfl
    refine cw_iload_n (pc := 2) dX9_image_2 rfl rfl <|
      cw_sipush (v := 948) (pc := 3) dX9_image_3 (by decide) <|
      cw_icmp_ge_T (tgt := 27) (pc := 6) dX9_image_6 (by decide) (by decide) <|
      cw_aload_n (pc := 27) dX9_image_27 rfl rfl <|
      cw_iconst (v := 1) (pc := 28) dX9_image_28 (by decide) <|
      cw_putZ (q := 67) (pc := 29) dX9_image_29 pX9_258 sh_67 (by decide) rfl (by decide) <|
      cw_aload_n (pc := 32) dX9_image_32 rfl rfl <|
      cw_getR (q := 67) (t := 68) (pc := 33) dX9_image_33 fX9_9 sh_67 (by decide) rfl <|
      cw_bipush (v := 31) (pc := 36) dX9_image_36 (by decide) <|
      cw_ial (q := 68) (jn := 31) (pc := 38) dX9_image_38 sh_68 rfl (by decide) (by decide) <|
      ?_
    rw [show (st (str μ 69 (fun k => if k < 948 then μ 68 k else μ 69 k)) 67 4 1) 68 31 = nI n from hn]
    refine cw_iret (pc := 39) dX9_image_39 hR <|
      ⟨by rw [hn], fun k hk => by rw [st_ne _ _ (by decide), str_at, if_pos rfl, if_pos hk], st_eq _ _ _ _, (Same.rf.sr (fun _ => Or.inl rfl)).s1 (Or.inr ⟨rfl, rfl⟩)⟩
  · rintro i ⟨⟩ m hi rfl ih
    have e : (str μ 69 (fun k => if k < i then μ 68 k else μ 69 k)) 68 i = μ 68 i := by rw [str_at, if_neg (by decide)]
    refine cw_iload_n (pc := 2) dX9_image_2 rfl rfl <|
      cw_sipush (v := 948) (pc := 3) dX9_image_3 (by decide) <|
      cw_icmp_ge_F (tgt := 27) (pc := 6) dX9_image_6 (by decide) (nI_ge (b := 948) hi (by decide)) <|
      cw_aload_n (pc := 9) dX9_image_9 rfl rfl <|
      cw_getR (q := 67) (t := 69) (pc := 10) dX9_image_10 fX9_15 sh_67 (by decide) rfl <|
      cw_iload_n (pc := 13) dX9_image_13 rfl rfl <|
      cw_aload_n (pc := 14) dX9_image_14 rfl rfl <|
      cw_getR (q := 67) (t := 68) (pc := 15) dX9_image_15 fX9_9 sh_67 (by decide) rfl <|
      cw_iload_n (pc := 18) dX9_image_18 rfl rfl <|
      cw_ial (q := 68) (jn := i) (pc := 19) dX9_image_19 sh_68 rfl hi (by decide) <|
      ?_
    rw [e]
    refine cw_ias (q := 69) (jn := i) (pc := 20) dX9_image_20 sh_69 rfl hi (by decide) <|
      cw_iincL (L' := [_, _]) (c := 1) (pc := 21) dX9_image_21 rfl (by decide) (by decide) rfl rfl <|
      ?_
    rw [nI_1 i]
    refine cw_goto (tgt := 2) (pc := 24) dX9_image_24 (by decide) <|
      ?_
    exact ih () _ (cp_s69 μ i)
  · funext q
    rw [str_at]
    split
    · rename_i h; subst h; funext k; simp
    · rfl
set_option maxHeartbeats 4000000 in
set_option maxRecDepth 100000 in
theorem c_X9_undo_1 {E : Ev} {μ : Mem} (h1 : μ 67 4 = 1) : AM E yX9_undo cX9_undo 2 (some .int) 0 [.ref 67] μ (fun r μ' => r = some (.int (μ 69 31)) ∧ (∀ k, k < 948 → μ' 68 k = μ 69 k) ∧ Same UNF μ μ') := by
  refine am_of (own := RX9) (L := [.ref 67, .null]) (by decide) rfl (Nat.le_of_ble_eq_true rfl) rfl (fun Γ hR => ?_)
  refine cw_aload_n (pc := 0) dX9_undo_0 rfl rfl <|
    cw_getI (q := 67) (pc := 1) dX9_undo_1 fX9_258 sh_67 (by decide) rfl <|
    cw_if_ne_T (tgt := 10) (pc := 4) dX9_undo_4 (by decide) (by rw [h1]; decide) <|
    cw_iconst (v := 0) (pc := 10) dX9_undo_10 (by decide) <|
    cw_istore_n (L' := [_, _]) (pc := 11) dX9_undo_11 rfl (by decide) rfl rfl <|
    ?_
  refine cw_for (σ := Unit) 948 (fun i _ m => m = str μ 68 (fun k => if k < i then μ 69 k else μ 68 k)) (fun i _ => [.ref 67, .int (nI i)]) ?_ ?_ 0 () _ (Nat.zero_le _) ?_
  · rintro ⟨⟩ m rfl
    refine cw_iload_n (pc := 12) dX9_undo_12 rfl rfl <|
      cw_sipush (v := 948) (pc := 13) dX9_undo_13 (by decide) <|
      cw_icmp_ge_T (tgt := 37) (pc := 16) dX9_undo_16 (by decide) (by decide) <|
      cw_aload_n (pc := 37) dX9_undo_37 rfl rfl <|
      cw_getR (q := 67) (t := 68) (pc := 38) dX9_undo_38 fX9_9 sh_67 (by decide) rfl <|
      cw_bipush (v := 31) (pc := 41) dX9_undo_41 (by decide) <|
      cw_ial (q := 68) (jn := 31) (pc := 43) dX9_undo_43 sh_68 rfl (by decide) (by decide) <|
      ?_
    rw [show (str μ 68 (fun k => if k < 948 then μ 69 k else μ 68 k)) 68 31 = μ 69 31 by rw [str_at, if_pos rfl, if_pos (by decide)]]
    refine cw_iret (pc := 44) dX9_undo_44 hR <|
      ⟨rfl, fun k hk => by rw [str_at, if_pos rfl, if_pos hk], Same.rf.sr (fun _ => rfl)⟩
  · rintro i ⟨⟩ m hi rfl ih
    have e : (str μ 68 (fun k => if k < i then μ 69 k else μ 68 k)) 69 i = μ 69 i := by rw [str_at, if_neg (by decide)]
    refine cw_iload_n (pc := 12) dX9_undo_12 rfl rfl <|
      cw_sipush (v := 948) (pc := 13) dX9_undo_13 (by decide) <|
      cw_icmp_ge_F (tgt := 37) (pc := 16) dX9_undo_16 (by decide) (nI_ge (b := 948) hi (by decide)) <|
      cw_aload_n (pc := 19) dX9_undo_19 rfl rfl <|
      cw_getR (q := 67) (t := 68) (pc := 20) dX9_undo_20 fX9_9 sh_67 (by decide) rfl <|
      cw_iload_n (pc := 23) dX9_undo_23 rfl rfl <|
      cw_aload_n (pc := 24) dX9_undo_24 rfl rfl <|
      cw_getR (q := 67) (t := 69) (pc := 25) dX9_undo_25 fX9_15 sh_67 (by decide) rfl <|
      cw_iload_n (pc := 28) dX9_undo_28 rfl rfl <|
      cw_ial (q := 69) (jn := i) (pc := 29) dX9_undo_29 sh_69 rfl hi (by decide) <|
      ?_
    rw [e]
    refine cw_ias (q := 68) (jn := i) (pc := 30) dX9_undo_30 sh_68 rfl hi (by decide) <|
      cw_iincL (L' := [_, _]) (c := 1) (pc := 31) dX9_undo_31 rfl (by decide) (by decide) rfl rfl <|
      ?_
    rw [nI_1 i]
    refine cw_goto (tgt := 12) (pc := 34) dX9_undo_34 (by decide) <|
      ?_
    exact ih () _ (cp_s68 μ i)
  · funext q
    rw [str_at]
    split
    · rename_i h; subst h; funext k; simp
    · rfl
set_option maxHeartbeats 4000000 in
set_option maxRecDepth 100000 in
theorem c_X9_undo_0 {E : Ev} {μ : Mem} (h0 : μ 67 4 = 0) : AM E yX9_undo cX9_undo 2 (some .int) 0 [.ref 67] μ (fun r μ' => r = some (.int (-3)) ∧ μ' = μ) := by
  refine am_of (own := RX9) (L := [.ref 67, .null]) (by decide) rfl (Nat.le_of_ble_eq_true rfl) rfl (fun Γ hR => ?_)
  refine cw_aload_n (pc := 0) dX9_undo_0 rfl rfl <|
    cw_getI (q := 67) (pc := 1) dX9_undo_1 fX9_258 sh_67 (by decide) rfl <|
    cw_if_ne_F (tgt := 10) (pc := 4) dX9_undo_4 (by decide) h0 <|
    cw_bipush (v := -3) (pc := 7) dX9_undo_7 (by decide) <|
    cw_iret (pc := 9) dX9_undo_9 hR <|
    ⟨rfl, rfl⟩
set_option maxHeartbeats 4000000 in
set_option maxRecDepth 100000 in
theorem c_X9_count {E : Ev} {μ : Mem} {s : Row} (hs : μ 68 = s) {w : Int32} : AM E yX9_count cX9_count 2 (some .int) 1 [.ref 67, .int w] μ (fun r μ' => r = some (.int (countA s (μ 67 18) w)) ∧ μ' = μ) := by
  refine am_of (own := RX9) (L := [.ref 67, .int w]) (by decide) rfl (Nat.le_of_ble_eq_true rfl) rfl (fun Γ hR => ?_)
  subst hs
  by_cases h7 : w = 7
  · refine cw_iload_n (pc := 0) dX9_count_0 rfl rfl <|
      cw_bipush (v := 7) (pc := 1) dX9_count_1 (by decide) <|
      cw_icmp_ne_F (tgt := 13) (pc := 3) dX9_count_3 (by decide) h7 <|
      cw_aload_n (pc := 6) dX9_count_6 rfl rfl <|
      cw_getI (q := 67) (pc := 7) dX9_count_7 fX9_222 sh_67 (by decide) rfl <|
      cw_goto (tgt := 36) (pc := 10) dX9_count_10 (by decide) <|
      cw_iret (pc := 36) dX9_count_36 hR <|
      ⟨by rw [countA, if_pos h7], rfl⟩
  · by_cases hw : 0 ≤ w ∧ w ≤ 6
    · obtain ⟨q, hq, rfl⟩ := ix_of (n := 7) (by decide) ⟨hw.1, i_le6.mp hw.2⟩
      have hc : countA (μ 68) (μ 67 18) (nI q) = μ 68 (31 + q) := by
        rcases (show q = 0 ∨ q = 1 ∨ q = 2 ∨ q = 3 ∨ q = 4 ∨ q = 5 ∨ q = 6 by omega) with rfl | rfl | rfl | rfl | rfl | rfl | rfl <;> rfl
      refine cw_iload_n (pc := 0) dX9_count_0 rfl rfl <|
        cw_bipush (v := 7) (pc := 1) dX9_count_1 (by decide) <|
        cw_icmp_ne_T (tgt := 13) (pc := 3) dX9_count_3 (by decide) h7 <|
        cw_iload_n (pc := 13) dX9_count_13 rfl rfl <|
        cw_iconst (v := 0) (pc := 14) dX9_count_14 (by decide) <|
        cw_bipush (v := 6) (pc := 15) dX9_count_15 (by decide) <|
        cw_insI (pc := 17) dX9_count_17 c_X9_in vX9_44 rfl rfl rfl (by decide) <|
        cw_if_eq_F (tgt := 35) (pc := 20) dX9_count_20 (by decide) (bI_n0.mpr hw) <|
        cw_aload_n (pc := 23) dX9_count_23 rfl rfl <|
        cw_getR (q := 67) (t := 68) (pc := 24) dX9_count_24 fX9_9 sh_67 (by decide) rfl <|
        cw_bipush (v := 31) (pc := 27) dX9_count_27 (by decide) <|
        cw_iload_n (pc := 29) dX9_count_29 rfl rfl <|
        cw_iadd (pc := 30) dX9_count_30 <|
        cw_ial (q := 68) (jn := (31 + q)) (pc := 31) dX9_count_31 sh_68 (nx_add rfl rfl) (by omega) (by decide) <|
        cw_goto (tgt := 36) (pc := 32) dX9_count_32 (by decide) <|
        cw_iret (pc := 36) dX9_count_36 hR <|
        ⟨by rw [hc], rfl⟩
    · have hz : ∀ v : Int32, 0 ≤ v → v ≤ 6 → ¬ w = v := fun v a b e => hw (by rw [e]; exact ⟨a, b⟩)
      refine cw_iload_n (pc := 0) dX9_count_0 rfl rfl <|
        cw_bipush (v := 7) (pc := 1) dX9_count_1 (by decide) <|
        cw_icmp_ne_T (tgt := 13) (pc := 3) dX9_count_3 (by decide) h7 <|
        cw_iload_n (pc := 13) dX9_count_13 rfl rfl <|
        cw_iconst (v := 0) (pc := 14) dX9_count_14 (by decide) <|
        cw_bipush (v := 6) (pc := 15) dX9_count_15 (by decide) <|
        cw_insI (pc := 17) dX9_count_17 c_X9_in vX9_44 rfl rfl rfl (by decide) <|
        cw_if_eq_T (tgt := 35) (pc := 20) dX9_count_20 (by decide) (bI_0.mpr hw) <|
        cw_iconst (v := -1) (pc := 35) dX9_count_35 (by decide) <|
        cw_iret (pc := 36) dX9_count_36 hR <|
        ⟨by rw [countA, if_neg h7, if_neg (hz 0 (by decide) (by decide)), if_neg (hz 1 (by decide) (by decide)), if_neg (hz 2 (by decide) (by decide)), if_neg (hz 3 (by decide) (by decide)), if_neg (hz 4 (by decide) (by decide)), if_neg (hz 5 (by decide) (by decide)), if_neg (hz 6 (by decide) (by decide))], rfl⟩
