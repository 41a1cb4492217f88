/-! ===== PARISH, the component's ===== -/
/-- the tape is empty -/
theorem Rel.tp {μ μ' : Mem} {s : Row} {code : PCo} {mk : Nat} (h : Rel μ 1 s code mk) (e : Same FRx μ μ') : Rel (st μ' 12 2 0) 1 (upd s 37 0) code mk := by
  have h' : Rel μ' 1 s code mk := h.mo (fun q a b => funext fun i => e q i (by unfold FRx; omega))
  exact h'.pT h'.2.2.1.em (fun q a b c => funext fun i => st_at.trans (if_neg (by omega))) (fun i hi => un (by omega))
theorem ParEq.code {μ μ' : Mem} {c : PCo} (h : ParEq μ' 9 μ 62) (hc : CodeAt μ 62 c) : CodeAt μ' 9 c := by
  obtain ⟨h1, h2, h3⟩ := hc
  refine ⟨h.1.trans h1, h2, fun i q hq => ?_⟩
  have hi : i < c.length := (List.getElem?_eq_some_iff.mp hq).1
  exact ⟨(h.2.2.1 i (by omega)).trans (h3 i q hq).1, (h.2.2.2 i (by omega)).trans (h3 i q hq).2⟩
theorem Rel.pP {μ μ' : Mem} {s : Row} {code c' : PCo} {mk mk' : Nat} (h : Rel μ 1 s code mk) (e : Same (fun q _ => 9 ≤ q ∧ q ≤ 11) μ μ') (hc : CodeAt μ' 9 c') (hm : μ' 9 3 = nI mk') {v : Int32} : Rel (st μ' 1 7 v) 1 (upd s 32 v) c' mk' := by
  have f : ∀ q, 1 ≤ q → q ≤ 21 → ¬ (9 ≤ q ∧ q ≤ 11) → q ≠ 1 → (st μ' 1 7 v) q = μ q := fun q a b c d => funext fun i => (st_at.trans (if_neg (by omega))).trans (e q i (by omega))
  obtain ⟨r1, _, r3, r4, r5, r6, r7, _⟩ := h
  have g : ∀ i, i ≠ 32 → upd s 32 v i = s i := fun i hi => un hi
  refine ⟨(r1.mo (fun q a b => f q (by omega) (by omega) (by omega) (by omega))).cg (fun i hi => g i (by omega)), ⟨hc, hm⟩, ?_, ?_, ?_, ?_, ?_, ?_⟩
  · have r := RelT.cg (s' := upd s 32 v) r3 (fun i hi => g i (by omega))
    exact ⟨by rw [f _ (by decide) (by decide) (by decide) (by decide)]; exact r.1, by rw [f _ (by decide) (by decide) (by decide) (by decide)]; exact r.2.1, fun i hi => by rw [f _ (by decide) (by decide) (by decide) (by decide)]; exact r.2.2 i hi⟩
  · have r := RelC.cg (s' := upd s 32 v) r4 (fun i hi => g i (by omega))
    exact ⟨by rw [f _ (by decide) (by decide) (by decide) (by decide)]; exact r.1, by rw [f _ (by decide) (by decide) (by decide) (by decide)]; exact r.2.1, fun i hi => by rw [f _ (by decide) (by decide) (by decide) (by decide)]; exact r.2.2 i hi⟩
  · have r := RelS.cg (s' := upd s 32 v) r5 (fun i hi => g i (by omega))
    exact ⟨by rw [f _ (by decide) (by decide) (by decide) (by decide)]; exact r.1, by rw [f _ (by decide) (by decide) (by decide) (by decide)]; exact r.2.1, fun i hi => by rw [f _ (by decide) (by decide) (by decide) (by decide)]; exact r.2.2 i hi⟩
  · have r := RelW.cg (s' := upd s 32 v) r6 (fun i hi => g i (by omega))
    exact ⟨by rw [f _ (by decide) (by decide) (by decide) (by decide)]; exact r.1, by rw [f _ (by decide) (by decide) (by decide) (by decide)]; exact r.2.1, fun i hi => by rw [f _ (by decide) (by decide) (by decide) (by decide)]; exact r.2.2 i hi⟩
  · have r := RelB.cg (s' := upd s 32 v) r7 (fun i hi => g i (by omega))
    exact ⟨by rw [f _ (by decide) (by decide) (by decide) (by decide)]; exact r.1, by rw [f _ (by decide) (by decide) (by decide) (by decide)]; exact r.2.1, fun i hi => by rw [f _ (by decide) (by decide) (by decide) (by decide)]; exact r.2.2 i hi⟩
  · rw [st_eq, us]
set_option maxHeartbeats 4000000 in
set_option maxRecDepth 100000 in
theorem c_X8_parish {E : Ev} {μ : Mem} {s : Row} {n mk : Nat} {code : PCo} (hI : Inv s n code mk) (hR1 : Rel μ 1 s code mk) : AM E yX8_parish cX8_parish 2 (some .int) 40 [.ref 0] μ (fun r μ' => r = some (.int (parA s)) ∧ Rel μ' 1 (parR s) (parC s code) (parM s mk) ∧ Same PB μ μ') := by
  refine am_of (own := RX8) (L := [.ref 0, .null]) (by decide) rfl (Nat.le_of_ble_eq_true rfl) rfl (fun Γ hR => ?_)
  have hR0 := hR1
  obtain ⟨hIL, hIP, hIC, hIS, hIW, hIB, hIT⟩ := hI
  obtain ⟨hL, ⟨hcd, hmk⟩, hT, hC, hS, hW, hB, hnp⟩ := hR1
  have hn := hIL.1
  have h6 := hIL.2.1
  have h31 : μ 2 1 = s 31 := hL.2.1
  obtain ⟨k, h100, e37, -⟩ := id hIT
  have hq : RQ μ s := ⟨hT.2.1, hT.2.2⟩
  obtain ⟨np, hnp5, e32, -⟩ := id hIP.1
  have hnp' : μ 1 7 = s 32 := hnp
  by_cases h5 : s 32 = 5
  · refine cw_aload_n (pc := 0) dX8_parish_0 rfl rfl <|
      cw_getR (q := 0) (t := 1) (pc := 1) dX8_parish_1 fX8_12 sh_0 (by decide) rfl <|
      cw_getI (q := 1) (pc := 4) dX8_parish_4 fX8_81 sh_1 (by decide) rfl <|
      ?_
    rw [hnp']
    refine cw_iconst (v := 5) (pc := 7) dX8_parish_7 (by decide) <|
      cw_icmp_lt_F (tgt := 14) (pc := 8) dX8_parish_8 (by decide) (by rw [h5]; decide) <|
      cw_bipush (v := -4) (pc := 11) dX8_parish_11 (by decide) <|
      cw_iret (pc := 13) dX8_parish_13 hR <|
      ⟨by rw [parA, if_pos h5], by rw [parR, parC, parM, if_pos h5, if_pos h5, if_pos h5]; exact hR0, Same.rf⟩
  · have hlt : s 32 < 5 := by rw [e32]; exact nI_lt (b := 5) (by rcases Nat.lt_or_ge np 5 with h | h; exact h; exact absurd (by rw [e32, show np = 5 by omega]; rfl) h5) (by decide)
    by_cases hs : (rdS s).1 = true
    · have hb := rdS_ok hIT hs
      refine cw_aload_n (pc := 0) dX8_parish_0 rfl rfl <|
        cw_getR (q := 0) (t := 1) (pc := 1) dX8_parish_1 fX8_12 sh_0 (by decide) rfl <|
        cw_getI (q := 1) (pc := 4) dX8_parish_4 fX8_81 sh_1 (by decide) rfl <|
        ?_
      rw [hnp']
      refine cw_iconst (v := 5) (pc := 7) dX8_parish_7 (by decide) <|
        cw_icmp_lt_T (tgt := 14) (pc := 8) dX8_parish_8 (by decide) hlt <|
        cw_aload_n (pc := 14) dX8_parish_14 rfl rfl <|
        cw_getR (q := 0) (t := 61) (pc := 15) dX8_parish_15 fX8_64 sh_0 (by decide) rfl <|
        cw_invP (q := 61) (pc := 18) dX8_parish_18 (c_X5_faultOfTape hIT e37 h100 hq) rfl vX8_85 sh_61 (by decide) rfl rfl rfl (by decide) <|
        ?_
      rintro _ m1 ⟨rfl, hcd1, s1⟩
      have hR2 := hR0.tp s1
      rw [if_pos hs]
      refine cw_istore_n (L' := [_, _]) (pc := 21) dX8_parish_21 rfl (by decide) rfl rfl <|
        cw_aload_n (pc := 22) dX8_parish_22 rfl rfl <|
        cw_getR (q := 0) (t := 1) (pc := 23) dX8_parish_23 fX8_12 sh_0 (by decide) rfl <|
        cw_getR (q := 1) (t := 12) (pc := 26) dX8_parish_26 fX8_57 sh_1 (by decide) rfl <|
        cw_invI (q := 12) (pc := 29) dX8_parish_29 (c_X6_empties row_12) rfl vX8_89 sh_12 (by decide) rfl rfl rfl (by decide) <|
        cw_pop (pc := 32) dX8_parish_32 rfl <|
        cw_iload_n (pc := 33) dX8_parish_33 rfl rfl <|
        cw_if_lt_T (tgt := 42) (pc := 34) dX8_parish_34 (by decide) (show (-1 : Int32) < 0 by decide) <|
        cw_aload_n (pc := 42) dX8_parish_42 rfl rfl <|
        cw_getR (q := 0) (t := 1) (pc := 43) dX8_parish_43 fX8_12 sh_0 (by decide) rfl <|
        cw_getR (q := 1) (t := 9) (pc := 46) dX8_parish_46 fX8_28 sh_1 (by decide) rfl <|
        cw_aload_n (pc := 49) dX8_parish_49 rfl rfl <|
        cw_getR (q := 0) (t := 61) (pc := 50) dX8_parish_50 fX8_64 sh_0 (by decide) rfl <|
        cw_getR (q := 61) (t := 62) (pc := 53) dX8_parish_53 fX8_92 sh_61 (by decide) rfl <|
        cw_invP (q := 9) (pc := 56) dX8_parish_56 (c_X3_takes par_9 par_62 (by decide)) rfl vX8_95 sh_9 (by decide) rfl rfl rfl (by decide) <|
        ?_
      rintro _ m3 ⟨rfl, pe, s3⟩
      have hc62 : CodeAt (st m1 12 2 0) 62 (rdS s).2.2.1 := (hcd1 hs).1
      have hc9 := pe.code hc62
      have hm9 : m3 9 3 = nI (rdS s).2.2.2 := pe.2.1.trans (hcd1 hs).2
      have e7 : m3 1 7 = s 32 := (s3 _ _ (by omega)).trans (((st_at.trans (if_neg (by omega))).trans (s1 _ _ (by unfold FRx; omega))).trans hnp')
      refine cw_aload_n (pc := 59) dX8_parish_59 rfl rfl <|
        cw_getR (q := 0) (t := 1) (pc := 60) dX8_parish_60 fX8_12 sh_0 (by decide) rfl <|
        cw_dup (pc := 63) dX8_parish_63 rfl <|
        cw_getI (q := 1) (pc := 64) dX8_parish_64 fX8_81 sh_1 (by decide) rfl <|
        ?_
      rw [e7]
      refine cw_iconst (v := 1) (pc := 67) dX8_parish_67 (by decide) <|
        cw_iadd (pc := 68) dX8_parish_68 <|
        cw_putI (q := 1) (pc := 69) dX8_parish_69 pX8_81 sh_1 (by decide) rfl <|
        cw_aload_n (pc := 72) dX8_parish_72 rfl rfl <|
        cw_getR (q := 0) (t := 1) (pc := 73) dX8_parish_73 fX8_12 sh_0 (by decide) rfl <|
        cw_getI (q := 1) (pc := 76) dX8_parish_76 fX8_81 sh_1 (by decide) rfl <|
        ?_
      rw [st_eq]
      refine cw_iconst (v := 1) (pc := 79) dX8_parish_79 (by decide) <|
        cw_isub (pc := 80) dX8_parish_80 <|
        ?_
      rw [Int32.add_sub_cancel]
      refine cw_iret (pc := 81) dX8_parish_81 hR <|
        ⟨by rw [parA, if_neg h5, if_pos hs], by rw [parR, parC, parM, if_neg h5, if_neg h5, if_neg h5, if_pos hs, if_pos hs, if_pos hs]; exact hR2.pP s3 hc9 hm9, (((s1.mo (G := PB) (fun q i h => by unfold FRx at h; unfold PB; omega)).s1 (Or.inl ⟨by decide, by decide⟩)).tr (s3.mo (fun q i h => by unfold PB; omega))).s1 (Or.inl ⟨by decide, by decide⟩)⟩
    · have hg := par_good (nx_end e37 h100) 10 0 [] 30 (Nat.zero_le _) (by decide)
      have hpl : (rdS s).2.1 ≤ k := hg.2.1
      refine cw_aload_n (pc := 0) dX8_parish_0 rfl rfl <|
        cw_getR (q := 0) (t := 1) (pc := 1) dX8_parish_1 fX8_12 sh_0 (by decide) rfl <|
        cw_getI (q := 1) (pc := 4) dX8_parish_4 fX8_81 sh_1 (by decide) rfl <|
        ?_
      rw [hnp']
      refine cw_iconst (v := 5) (pc := 7) dX8_parish_7 (by decide) <|
        cw_icmp_lt_T (tgt := 14) (pc := 8) dX8_parish_8 (by decide) hlt <|
        cw_aload_n (pc := 14) dX8_parish_14 rfl rfl <|
        cw_getR (q := 0) (t := 61) (pc := 15) dX8_parish_15 fX8_64 sh_0 (by decide) rfl <|
        cw_invP (q := 61) (pc := 18) dX8_parish_18 (c_X5_faultOfTape hIT e37 h100 hq) rfl vX8_85 sh_61 (by decide) rfl rfl rfl (by decide) <|
        ?_
      rintro _ m1 ⟨rfl, hcd1, s1⟩
      have hR2 := hR0.tp s1
      rw [if_neg hs]
      refine cw_istore_n (L' := [_, _]) (pc := 21) dX8_parish_21 rfl (by decide) rfl rfl <|
        cw_aload_n (pc := 22) dX8_parish_22 rfl rfl <|
        cw_getR (q := 0) (t := 1) (pc := 23) dX8_parish_23 fX8_12 sh_0 (by decide) rfl <|
        cw_getR (q := 1) (t := 12) (pc := 26) dX8_parish_26 fX8_57 sh_1 (by decide) rfl <|
        cw_invI (q := 12) (pc := 29) dX8_parish_29 (c_X6_empties row_12) rfl vX8_89 sh_12 (by decide) rfl rfl rfl (by decide) <|
        cw_pop (pc := 32) dX8_parish_32 rfl <|
        cw_iload_n (pc := 33) dX8_parish_33 rfl rfl <|
        cw_if_lt_F (tgt := 42) (pc := 34) dX8_parish_34 (by decide) (nI_pos (by omega)) <|
        cw_bipush (v := -10) (pc := 37) dX8_parish_37 (by decide) <|
        cw_iload_n (pc := 39) dX8_parish_39 rfl rfl <|
        cw_isub (pc := 40) dX8_parish_40 <|
        cw_iret (pc := 41) dX8_parish_41 hR <|
        ⟨by rw [parA, if_neg h5, if_neg hs], by rw [parR, parC, parM, if_neg h5, if_neg h5, if_neg h5, if_neg hs, if_neg hs, if_neg hs]; exact hR2, (s1.mo (G := PB) (fun q i h => by unfold FRx at h; unfold PB; omega)).s1 (Or.inl ⟨by decide, by decide⟩)⟩
